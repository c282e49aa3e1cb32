import java.io.IOException;
import java.lang.reflect.InvocationTargetException;
import java.lang.reflect.Method;
import java.lang.reflect.Modifier;
import java.nio.file.Files;
import java.nio.file.Path;
import java.util.List;
import java.util.regex.Matcher;
import java.util.regex.Pattern;
import java.util.stream.Collectors;
import java.util.stream.Stream;

/** The calls that README.md shows answer what it says, and it names every call and every test. Runs in its folder. */
final class ReadmeTest {
    private static final Path README = Path.of("README.md");
    private static final Path TESTS = Path.of("src/test/java");
    private static final String NEW_OBJECT = "SystemParts x = new SystemParts();";
    private static final Pattern CALL = Pattern.compile("x\\.(\\w+)\\(([-\\d, ]*)\\); +// ([-\\w]+)(:.*)?");

    public static void main(String[] args) throws IOException, IllegalAccessException {
        String text = Files.readString(README);
        shownCalls(text);
        everyCallIsNamed(text);
        everyTestIsNamed(text);
        Check.end();
    }

    private static void shownCalls(String text) throws IllegalAccessException {
        SystemParts x = null;
        for (String line : text.split("\n")) {
            Matcher call = CALL.matcher(line);
            if (line.equals(NEW_OBJECT)) {
                x = new SystemParts();
            } else if (call.matches()) {
                String answer = answer(x, call.group(1), call.group(2));
                Check.same(line, List.of(answer), List.of(call.group(3)));
            } else {
                Check.due("a call that this test can't read: " + line, line.startsWith("x."), false);
            }
        }
        Check.due("there are calls", x != null, true);
    }

    private static String answer(SystemParts x, String name, String numbers) throws IllegalAccessException {
        Object[] arguments = numbers.isEmpty() ? new Object[0]
                : Stream.of(numbers.split(", ")).map(Integer::valueOf).toArray();
        for (Method method : SystemParts.class.getMethods()) {
            if (method.getName().equals(name) && method.getParameterCount() == arguments.length) {
                return answer(x, method, arguments);
            }
        }
        return "no such call";
    }

    private static String answer(SystemParts x, Method method, Object[] arguments) throws IllegalAccessException {
        try {
            return String.valueOf(method.invoke(x, arguments));
        } catch (InvocationTargetException e) {
            return e.getCause().getClass().getSimpleName();
        }
    }

    private static void everyCallIsNamed(String text) {
        for (Method method : SystemParts.class.getDeclaredMethods()) {
            boolean isOfTheFace = Modifier.isPublic(method.getModifiers());
            boolean isNamed = text.contains("`" + method.getName() + "(");
            Check.due(method.getName() + " has its row", isNamed, isOfTheFace);
        }
    }

    private static void everyTestIsNamed(String text) throws IOException {
        try (Stream<Path> files = Files.list(TESTS)) {
            List<String> names = files.map(file -> file.getFileName().toString().replace(".java", ""))
                    .filter(name -> name.endsWith("Test")).collect(Collectors.toList());
            for (String name : names) {
                Check.due(name + " is named", Pattern.compile("\\b" + name + "\\b").matcher(text).find(), true);
            }
            Matcher named = Pattern.compile("\\b\\w+Test\\b").matcher(text);
            while (named.find()) {
                Check.due(named.group() + " is there", names.contains(named.group()), true);
            }
        }
    }
}

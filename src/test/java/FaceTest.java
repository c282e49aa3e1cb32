import java.lang.reflect.Constructor;
import java.lang.reflect.Field;
import java.lang.reflect.Method;
import java.lang.reflect.Modifier;
import java.util.Arrays;
import java.util.HashSet;
import java.util.Set;

/** The public face is the document's, and no other member can be seen from outside. */
final class FaceTest {
    private static final String IAE = " IllegalArgumentException";
    private static final String IOOBE = " IndexOutOfBoundsException";
    private static final String ISE = " IllegalStateException";
    private static final String UOE = " UnsupportedOperationException";
    private static final Set<String> FACE = Set.of(
            "int part 5" + IAE + UOE, "int load 2" + IAE, "int read 1" + IOOBE + ISE, "int write 2" + IOOBE + ISE,
            "boolean step 1" + IAE, "int receive 2" + IAE + UOE, "int sent 2" + IAE + IOOBE,
            "int line 3" + IOOBE + IAE, "int asks 1" + IOOBE, "int chosen 0", "int take 0", "int reset 0",
            "int count 1");

    public static void main(String[] args) throws Exception {
        Class<?> face = SystemParts.class;
        Check.due("public and final", face.getModifiers(), Modifier.PUBLIC | Modifier.FINAL);
        Set<String> seen = new HashSet<>();
        Set<String> publicNames = new HashSet<>();
        for (Method m : face.getDeclaredMethods()) {
            if (!Modifier.isPrivate(m.getModifiers())) {
                seen.add(described(m));
                publicNames.add(m.getName());
                Check.due(m + " is public", m.getModifiers(), Modifier.PUBLIC);
                Check.due(m + " takes ints", Arrays.stream(m.getParameterTypes()).allMatch(t -> t == int.class), true);
            }
        }
        Check.due("the methods are the document's: " + seen, seen.equals(FACE), true);
        for (Method m : face.getDeclaredMethods()) {
            if (Modifier.isPrivate(m.getModifiers())) {
                Check.due(m + " bears no public name", publicNames.contains(m.getName()), false);
            }
        }
        fieldsAndConstructors(face);
        Check.end();
    }

    private static String described(Method m) {
        StringBuilder text = new StringBuilder(m.getReturnType() + " " + m.getName() + " " + m.getParameterCount());
        for (Class<?> e : m.getExceptionTypes()) {
            text.append(' ').append(e.getSimpleName());
        }
        return text.toString();
    }

    private static void fieldsAndConstructors(Class<?> face) {
        for (Field f : face.getDeclaredFields()) {
            boolean isNone = f.getName().equals("NONE");
            Check.due(f + " is private", Modifier.isPrivate(f.getModifiers()), !isNone);
            boolean loose = Modifier.isStatic(f.getModifiers()) && !Modifier.isFinal(f.getModifiers());
            Check.due(f + " is no loose static", loose, false);
        }
        Constructor<?>[] all = face.getDeclaredConstructors();
        Check.due("one constructor", all.length, 1);
        Check.due("it is public", all[0].getModifiers(), Modifier.PUBLIC);
        Check.due("it takes nothing", all[0].getParameterCount(), 0);
    }
}

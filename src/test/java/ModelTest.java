import java.util.ArrayList;
import java.util.List;
import java.util.Random;
import java.util.function.Supplier;

/** Runs of mixed calls, each made on the class and on PlainModel: the answers are the same, the exceptions too. */
final class ModelTest {
    private static final int RUNS = 1500;
    /** With the calls that look at the state behind the last one, a run stays under the document's 512. */
    private static final int CALLS = 440;
    private static final int[] ODD = {-1, 0, 1, 2, 3, 5, 6, 7, 8, 11, 12, 15, 16, 31, 32, 64, 65, 1000, 1001, 65535, 65536,
        Integer.MAX_VALUE, Integer.MIN_VALUE};

    private final Random random;
    private final SystemParts x = new SystemParts();
    private final PlainModel model = new PlainModel();
    /** Of each part its kind, first place and length. */
    private final List<int[]> laid = new ArrayList<>();
    private final List<String> calls = new ArrayList<>();
    private final int linesUsed;
    private boolean wentOn = true;

    private ModelTest(int seed) {
        random = new Random(seed);
        linesUsed = seed % 2 == 0 ? 2 : 16;
    }

    public static void main(String[] args) {
        for (int seed = 0; seed < RUNS; seed++) {
            ModelTest run = new ModelTest(seed);
            run.makeCalls(seed);
            run.lookAround();
            Check.due("run " + seed + " went as the model's", run.wentOn, true);
        }
        Check.end();
    }

    private void makeCalls(int seed) {
        int partsFirst = seed % 13;
        for (int i = 0; i < CALLS && wentOn; i++) {
            oneCall(i < partsFirst ? 0 : random.nextInt(40));
        }
    }

    private void oneCall(int which) {
        if (which == 0) {
            part();
        } else if (which == 1) {
            load(place(), number());
        } else if (which < 12) {
            read(place());
        } else if (which < 25) {
            write(place(), number());
        } else if (which < 28) {
            step(odd(14) ? anyOdd() : 1 + random.nextInt(12));
        } else if (which < 31) {
            receive(serial(), number());
        } else if (which == 31) {
            sent(serial(), random.nextInt(35) - 1);
        } else if (which < 35) {
            line(lineNumber(), odd(20) ? anyOdd() : random.nextInt(3), odd(10) ? anyOdd() : random.nextInt(3));
        } else if (which == 35) {
            compare("asks", model::asks, x::asks, lineNumber());
        } else if (which < 38) {
            compare("take()", model::take, x::take);
        } else if (which == 38 && odd(5)) {
            compare("reset()", model::reset, x::reset);
        } else {
            compare("count", model::count, x::count, random.nextInt(13) - 1);
        }
    }

    private void lookAround() {
        for (int what = 0; what <= 9; what++) {
            compare("count", model::count, x::count, what);
        }
        for (int line = 0; line <= 15; line++) {
            compare("asks", model::asks, x::asks, line);
        }
        compare("chosen()", model::chosen, x::chosen);
        for (int part = 0; part < laid.size(); part++) {
            sent(part, 0);
            read(laid.get(part)[1]);
            read(laid.get(part)[1] + laid.get(part)[2] - 1);
        }
    }

    private boolean odd(int oneOf) {
        return random.nextInt(oneOf) == 0;
    }

    private int anyOdd() {
        return ODD[random.nextInt(ODD.length)];
    }

    private int lineNumber() {
        return odd(20) ? anyOdd() : random.nextInt(linesUsed);
    }

    private int number() {
        switch (random.nextInt(4)) {
            case 0: return random.nextInt(4);
            case 1: return random.nextInt(16);
            case 2: return random.nextInt(600) - 100;
            default: return odd(2) ? anyOdd() : random.nextInt();
        }
    }

    private int place() {
        if (laid.isEmpty() || odd(16)) {
            return odd(4) ? anyOdd() : random.nextInt(260);
        }
        int[] one = laid.get(random.nextInt(laid.size()));
        return one[1] + random.nextInt(one[2]);
    }

    private int serial() {
        List<Integer> all = new ArrayList<>();
        for (int i = 0; i < laid.size(); i++) {
            if (laid.get(i)[0] == Kinds.SERIAL) {
                all.add(i);
            }
        }
        return all.isEmpty() || odd(16) ? random.nextInt(15) - 1 : all.get(random.nextInt(all.size()));
    }

    private void part() {
        int kind = odd(20) ? anyOdd() : random.nextInt(6);
        int from = odd(12) ? odd(2) ? anyOdd() : 65536 - random.nextInt(12) : random.nextInt(13) * 20 + random.nextInt(8);
        int size = odd(8) ? anyOdd() : 1 + random.nextInt(12);
        int line = lineNumber();
        int waits = odd(20) ? anyOdd() : odd(3) ? random.nextInt(8) : 0;
        int partsBefore = model.count(1);
        compare("part(" + kind + ", " + from + ", " + size + ", " + line + ", " + waits + ")",
                () -> model.part(kind, from, size, line, waits), () -> x.part(kind, from, size, line, waits));
        if (model.count(1) > partsBefore) {
            laid.add(new int[] {kind, from, model.lengthOf(partsBefore)});
        }
    }

    private void load(int place, int v) {
        compare("load(" + place + ", " + v + ")", () -> model.load(place, v), () -> x.load(place, v));
    }

    private void read(int place) {
        compare("read(" + place + ")", () -> model.read(place), () -> x.read(place));
    }

    private void write(int place, int v) {
        compare("write(" + place + ", " + v + ")", () -> model.write(place, v), () -> x.write(place, v));
    }

    private void step(int n) {
        compare("step(" + n + ")", () -> model.step(n), () -> x.step(n));
    }

    private void receive(int part, int v) {
        compare("receive(" + part + ", " + v + ")", () -> model.receive(part, v), () -> x.receive(part, v));
    }

    private void sent(int part, int k) {
        compare("sent(" + part + ", " + k + ")", () -> model.sent(part, k), () -> x.sent(part, k));
    }

    private void line(int line, int what, int v) {
        compare("line(" + line + ", " + what + ", " + v + ")",
                () -> model.line(line, what, v), () -> x.line(line, what, v));
    }

    private interface OfOne {
        int answer(int v);
    }

    private void compare(String name, OfOne due, OfOne got, int v) {
        compare(name + "(" + v + ")", () -> due.answer(v), () -> got.answer(v));
    }

    /** Behind the first answer that differs the two are in different states, so the run tells it and ends. */
    private void compare(String call, Supplier<Object> due, Supplier<Object> got) {
        if (!wentOn) {
            return;
        }
        String dueText = answer(due);
        String gotText = answer(got);
        calls.add(call + " = " + gotText);
        if (!gotText.equals(dueText)) {
            wentOn = false;
            System.out.println(String.join("\n", calls) + ", due is " + dueText);
        }
    }

    private static String answer(Supplier<Object> call) {
        try {
            return String.valueOf(call.get());
        } catch (RuntimeException e) {
            return e.getClass().getSimpleName();
        }
    }
}

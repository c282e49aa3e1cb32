import java.util.List;

/** Compares answers with what is due, and ends a test with exit code 1 if one was wrong. */
final class Check {
    private static int looked = 0;
    private static int wrong = 0;

    private Check() {
    }

    interface Call {
        long answer();
    }

    static void due(String what, long got, long want) {
        looked++;
        if (got != want) {
            wrong++;
            System.out.println(what + " answered " + got + ", due is " + want);
        }
    }

    static void due(String what, boolean got, boolean want) {
        due(what, got ? 1 : 0, want ? 1 : 0);
    }

    /** Tells the first answer in which two lists are not the same. */
    static void same(String what, List<String> got, List<String> want) {
        looked++;
        if (got.equals(want)) {
            return;
        }
        wrong++;
        int i = 0;
        while (i < got.size() && i < want.size() && got.get(i).equals(want.get(i))) {
            i++;
        }
        String gotThere = i < got.size() ? got.get(i) : "nothing";
        String wantThere = i < want.size() ? want.get(i) : "nothing";
        System.out.println(what + " left " + gotThere + ", due is " + wantThere);
    }

    /** The class must be the very one: what the machine throws is often a class below it. */
    static void dueThrow(String what, Class<? extends RuntimeException> want, Call call) {
        looked++;
        String got;
        try {
            got = "answered " + call.answer();
        } catch (RuntimeException e) {
            if (e.getClass() == want) {
                return;
            }
            got = "threw " + e;
        }
        wrong++;
        System.out.println(what + " " + got + ", due is " + want.getSimpleName());
    }

    static void refusedArgument(String what, Call call) {
        dueThrow(what, IllegalArgumentException.class, call);
    }

    static void outOfBounds(String what, Call call) {
        dueThrow(what, IndexOutOfBoundsException.class, call);
    }

    static void unsupported(String what, Call call) {
        dueThrow(what, UnsupportedOperationException.class, call);
    }

    static void fault(String what, Call call) {
        dueThrow(what, IllegalStateException.class, call);
    }

    static void end() {
        System.out.println(looked + " answers, " + wrong + " wrong");
        if (wrong != 0 || looked == 0) {
            System.exit(1);
        }
    }
}

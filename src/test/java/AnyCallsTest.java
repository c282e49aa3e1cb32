import java.util.Random;

/**
 * Many runs of mixed calls with good and wrong arguments: nothing but the named exceptions may come out,
 * none of them from the machine itself, and some things hold in every state.
 */
final class AnyCallsTest {
    private static final int RUNS = 2000;
    /** With the 19 calls of each look at the state, a run stays under the document's 512. */
    private static final int CALLS = 250;
    private static final int CALLS_A_LOOK = 20;
    private static final int[] EDGES = {-1, 0, 1, 2, 7, 8, 15, 16, 32, 64, 65, 1000, 1001, 65535, 65536,
        Integer.MAX_VALUE, Integer.MIN_VALUE};

    public static void main(String[] args) {
        for (int run = 0; run < RUNS; run++) {
            Random random = new Random(run);
            SystemParts a = new SystemParts();
            SystemParts b = new SystemParts();
            for (int i = 0; i < CALLS; i++) {
                int which = random.nextInt(16);
                int[] v = arguments(random, which);
                String name = "run " + run + " call " + i + " of " + which;
                long answer = answered(name, a, which, v);
                Check.due(name + " again", answered(name, b, which, v), answer);
                if (i % CALLS_A_LOOK == CALLS_A_LOOK - 1) {
                    holds(name, a);
                }
            }
        }
        Check.end();
    }

    private static int[] arguments(Random random, int which) {
        int[] v = new int[5];
        for (int i = 0; i < v.length; i++) {
            v[i] = random.nextInt(40) == 0 ? EDGES[random.nextInt(EDGES.length)] : random.nextInt(16);
        }
        if (which == 0) {
            v[0] = random.nextInt(20) == 0 ? v[0] : random.nextInt(6);
            v[1] = random.nextInt(20) == 0 ? v[1] : random.nextInt(12) * 8;
            v[4] = random.nextInt(3);
        } else if (which <= 8) {
            v[0] = random.nextInt(20) == 0 ? v[0] : random.nextInt(100);
        } else if (which <= 10) {
            v[0] = random.nextInt(20) == 0 ? v[0] : random.nextInt(12);
        }
        return v;
    }

    private static long answered(String name, SystemParts x, int which, int[] v) {
        try {
            return answer(x, which, v);
        } catch (RuntimeException e) {
            boolean thrownByHand = e.getClass() == IllegalArgumentException.class
                    || e.getClass() == IndexOutOfBoundsException.class
                    || e.getClass() == IllegalStateException.class
                    || e.getClass() == UnsupportedOperationException.class;
            boolean inTheClass = e.getStackTrace().length > 0
                    && e.getStackTrace()[0].getClassName().equals("SystemParts");
            Check.due(name + " threw " + e, thrownByHand && inTheClass, true);
            return e.getClass().getName().hashCode();
        }
    }

    private static long answer(SystemParts x, int which, int[] v) {
        switch (which) {
            case 0: return x.part(v[0], v[1], v[2], v[3], v[4]);
            case 1: return x.load(v[0], v[1]);
            case 2:
            case 3:
            case 4: return x.read(v[0]);
            case 5:
            case 6:
            case 7:
            case 8: return x.write(v[0], v[1]);
            case 9: return x.receive(v[0], v[1]);
            case 10: return x.sent(v[0], v[1]);
            case 11: return x.line(v[0], v[1] % 4, v[2]);
            case 12: return x.step(v[0]) ? 1 : 0;
            case 13: return x.asks(v[0]);
            case 14: return v[0] == 3 ? x.reset() : x.take();
            default: return x.count(v[0]);
        }
    }

    private static void holds(String name, SystemParts x) {
        int up = 0;
        int pending = 0;
        for (int line = 0; line < 16; line++) {
            int asks = x.asks(line);
            up |= (asks & 1) << line;
            pending |= (asks >> 1 & 1) << line;
        }
        Check.due(name + ": up as bits", x.count(6), up);
        Check.due(name + ": pending as bits", x.count(7), pending);
        int chosen = x.chosen();
        boolean chosenIsPending = chosen == SystemParts.NONE || (pending >> chosen & 1) == 1;
        Check.due(name + ": chosen is pending", chosenIsPending, true);
    }
}

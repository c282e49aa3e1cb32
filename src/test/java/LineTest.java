/** Promise 9: line. */
final class LineTest {
    public static void main(String[] args) {
        theOneBefore();
        wrongNumbers();
        anotherWayEndsPending();
        theSameWayEndsNothing();
        rankAndHiddenEndNothing();
        Check.end();
    }

    private static void theOneBefore() {
        SystemParts x = new SystemParts();
        int[] greatest = {2, 15, 1};
        for (int line = 0; line < 16; line++) {
            for (int what = 0; what <= 2; what++) {
                int before = 0;
                for (int v = greatest[what]; v >= 0; v--) {
                    Check.due("the one before", x.line(line, what, v), before);
                    before = v;
                }
                x.line(line, what, greatest[what]);
            }
        }
        for (int line = 0; line < 16; line++) {
            for (int what = 0; what <= 2; what++) {
                Check.due("each line has its own", x.line(line, what, 0), greatest[what]);
            }
        }
        Check.due("no step", x.count(0), 0);
    }

    private static void wrongNumbers() {
        SystemParts x = new SystemParts();
        for (int bad : new int[] {-1, 16, 32, Integer.MAX_VALUE, Integer.MIN_VALUE}) {
            Check.outOfBounds("line " + bad, () -> x.line(bad, 0, 0));
            Check.outOfBounds("line " + bad + ", what wrong too", () -> x.line(bad, 3, 0));
        }
        for (int bad : new int[] {-1, 3, Integer.MAX_VALUE, Integer.MIN_VALUE}) {
            Check.refusedArgument("what " + bad, () -> x.line(0, bad, 0));
            Check.refusedArgument("way " + bad, () -> x.line(0, 0, bad));
        }
        for (int bad : new int[] {-1, 16, Integer.MAX_VALUE, Integer.MIN_VALUE}) {
            Check.refusedArgument("rank " + bad, () -> x.line(0, 1, bad));
        }
        for (int bad : new int[] {-1, 2, Integer.MAX_VALUE, Integer.MIN_VALUE}) {
            Check.refusedArgument("hidden " + bad, () -> x.line(0, 2, bad));
        }
        for (int what = 0; what <= 2; what++) {
            Check.due("nothing was changed", x.line(0, what, 0), 0);
        }
    }

    private static void anotherWayEndsPending() {
        SystemParts x = Kinds.withTimers(1);
        x.line(0, Kinds.WAY, Kinds.RISE);
        Kinds.raise(x, 0);
        Check.due("up and pending by rise", x.asks(0), 3);
        x.line(0, Kinds.WAY, Kinds.CHANGE);
        Check.due("not pending by rise any more", x.asks(0), 1);
        Kinds.lower(x, 0);
        Check.due("pending by change", x.asks(0), 2);
        x.line(0, Kinds.WAY, Kinds.RISE);
        Check.due("not pending by change any more", x.asks(0), 0);
        Kinds.raise(x, 0);
        x.line(0, Kinds.WAY, Kinds.LEVEL);
        Check.due("pending by level", x.asks(0), 3);
        x.line(0, Kinds.WAY, Kinds.RISE);
        Check.due("up since before, so not by rise", x.asks(0), 1);
        x.step(3);
        Check.due("still not", x.asks(0), 1);
        Kinds.lower(x, 0);
        x.line(0, Kinds.WAY, Kinds.LEVEL);
        Check.due("a line that is down is not pending by level", x.asks(0), 0);
    }

    private static void theSameWayEndsNothing() {
        SystemParts x = Kinds.withTimers(1);
        x.line(0, Kinds.WAY, Kinds.RISE);
        Kinds.raise(x, 0);
        Check.due("the one before", x.line(0, Kinds.WAY, Kinds.RISE), Kinds.RISE);
        Check.due("the same way is no other", x.asks(0), 3);
    }

    private static void rankAndHiddenEndNothing() {
        SystemParts x = Kinds.withTimers(1);
        x.line(0, Kinds.WAY, Kinds.RISE);
        Kinds.raise(x, 0);
        x.line(0, Kinds.RANK, 4);
        x.line(0, Kinds.HIDDEN, 1);
        Check.due("pending though hidden", x.asks(0), 3);
        Check.due("pending though hidden, as bits", x.count(7), 1);
    }
}

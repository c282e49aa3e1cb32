/** Promise 10: asks, with the three ways of a line. */
final class AsksTest {
    public static void main(String[] args) {
        wrongLines();
        level();
        rise();
        change();
        hiddenLinesArePendingTheSame();
        severalPartsOnOneLine();
        linesAreSeenBehindEachStep();
        Check.end();
    }

    private static void wrongLines() {
        SystemParts x = Kinds.withTimers(2);
        for (int bad : new int[] {-1, 16, 32, Integer.MAX_VALUE, Integer.MIN_VALUE}) {
            Check.outOfBounds("asks(" + bad + ")", () -> x.asks(bad));
        }
        Kinds.raise(x, 1);
        for (int line = 0; line < 16; line++) {
            Check.due("asks(" + line + ")", x.asks(line), line == 1 ? 3 : 0);
        }
    }

    private static void level() {
        SystemParts x = Kinds.withTimers(1);
        Kinds.raise(x, 0);
        Check.due("up and pending", x.asks(0), 3);
        x.take();
        Check.due("a take does nothing", x.asks(0), 3);
        Kinds.lower(x, 0);
        Check.due("down and not pending", x.asks(0), 0);
    }

    private static void rise() {
        SystemParts x = Kinds.withTimers(1);
        x.line(0, Kinds.WAY, Kinds.RISE);
        Kinds.raise(x, 0);
        Check.due("up and pending", x.asks(0), 3);
        Kinds.lower(x, 0);
        Check.due("pending until it is taken", x.asks(0), 2);
        x.take();
        Check.due("taken", x.asks(0), 0);
        Kinds.raise(x, 0);
        x.take();
        Check.due("taken while up", x.asks(0), 1);
        x.step(5);
        Check.due("it does not go up anew", x.asks(0), 1);
        Kinds.lower(x, 0);
        Check.due("going down is no rise", x.asks(0), 0);
    }

    private static void change() {
        SystemParts x = Kinds.withTimers(1);
        x.line(0, Kinds.WAY, Kinds.CHANGE);
        Kinds.raise(x, 0);
        Check.due("pending by going up", x.asks(0), 3);
        x.take();
        Check.due("taken", x.asks(0), 1);
        Kinds.lower(x, 0);
        Check.due("pending by going down", x.asks(0), 2);
        x.step(5);
        Check.due("pending until it is taken", x.asks(0), 2);
        x.take();
        Check.due("taken", x.asks(0), 0);
    }

    private static void hiddenLinesArePendingTheSame() {
        SystemParts x = Kinds.withTimers(1);
        x.line(0, Kinds.HIDDEN, 1);
        Kinds.raise(x, 0);
        Check.due("hidden", x.asks(0), 3);
    }

    private static void severalPartsOnOneLine() {
        SystemParts x = new SystemParts();
        x.part(Kinds.TIMER, 0, 0, 15, 0);
        x.part(Kinds.TIMER, 10, 0, 15, 0);
        x.line(15, Kinds.WAY, Kinds.RISE);
        Kinds.raise(x, 0);
        Check.due("by the first", x.asks(15), 3);
        x.take();
        Kinds.raise(x, 1);
        Check.due("by both: no new rise", x.asks(15), 1);
        Kinds.lower(x, 0);
        Check.due("by the second", x.asks(15), 1);
        Kinds.lower(x, 1);
        Check.due("by none", x.asks(15), 0);
    }

    /** A serial line that is free for one step between two numbers: the rise must be seen. */
    private static void linesAreSeenBehindEachStep() {
        SystemParts x = new SystemParts();
        x.part(Kinds.SERIAL, 0, 0, 3, 3);
        x.write(2, 2);
        x.line(3, Kinds.WAY, Kinds.RISE);
        x.write(0, 1);
        Check.due("sending", x.asks(3), 0);
        x.write(0, 2);
        Check.due("it was up behind the last step, and is down again", x.asks(3), 2);
        x.take();
        x.line(3, Kinds.WAY, Kinds.CHANGE);
        x.write(0, 3);
        Check.due("likewise by change", x.asks(3), 2);
    }
}

/** Promise 13: reset, by reset() and by a timer. */
final class ResetTest {
    public static void main(String[] args) {
        causes();
        whatIsAsAtFirst(false);
        whatIsAsAtFirst(true);
        noChangeByReset();
        Check.end();
    }

    private static void causes() {
        SystemParts x = new SystemParts();
        Check.due("none yet", x.reset(), 0);
        Check.due("by reset()", x.reset(), 1);
        x.part(Kinds.TIMER, 0, 0, 0, 0);
        x.write(1, 1);
        x.write(2, 9);
        x.step(1);
        Check.due("by a timer", x.count(5), 2);
        Check.due("by a timer", x.reset(), 2);
        Check.due("by reset()", x.count(5), 1);
        Check.due("by reset()", x.reset(), 1);
    }

    private static SystemParts full() {
        SystemParts x = new SystemParts();
        x.part(Kinds.STORE, 0, 4, 0, 0);
        x.part(Kinds.FIXED, 10, 4, 1, 0);
        x.part(Kinds.TIMER, 20, 0, 2, 0);
        x.part(Kinds.SERIAL, 30, 0, 3, 0);
        x.part(Kinds.ROWS, 40, 0, 4, 0);
        x.part(Kinds.COUNTS, 60, 0, 5, 0);
        x.part(Kinds.TIMER, 70, 0, 6, 0);
        return x;
    }

    private static void fill(SystemParts x) {
        x.write(1, 11);
        x.load(11, 12);
        x.line(2, Kinds.WAY, Kinds.RISE);
        x.line(3, Kinds.RANK, 5);
        x.line(4, Kinds.HIDDEN, 1);
        x.write(43, 13);
        x.write(40, 6);
        x.write(41, 2);
        x.step(10);
        x.write(41, 1);
        x.write(21, 2);
        x.write(22, 7);
        x.write(30, 14);
        x.step(4);
        x.write(32, 3);
        x.write(30, 15);
        x.receive(3, 16);
        Check.fault("a fault", () -> x.read(500));
        x.step(1);
        Check.due("up", x.count(6), 4 + 8 + 16);
        Check.due("pending", x.count(7), 4 + 8 + 16);
    }

    private static void whatIsAsAtFirst(boolean byTimer) {
        SystemParts x = full();
        fill(x);
        if (byTimer) {
            x.write(71, 1);
            x.write(72, 9);
            Check.due("the timer resets", x.step(1), true);
        } else {
            x.reset();
        }
        int time = x.count(0);
        Check.due("the time stays", time, byTimer ? 28 : 25);
        Check.due("the parts stay", x.count(1), 7);
        for (int what : new int[] {2, 3, 4, 6, 7, 8, 9}) {
            Check.due("count(" + what + ")", x.count(what), 0);
        }
        Check.due("the cause", x.count(5), byTimer ? 2 : 1);
        Check.due("COUNTS of steps", x.read(60), 1);
        Check.due("COUNTS of reads", x.read(61), 2);
        Check.due("COUNTS of writes", x.read(62), 0);
        Check.due("COUNTS of faults", x.read(63), 0);
        for (int i = 0; i < 4; i++) {
            Check.due("TIMER", x.read(20 + i), 0);
            Check.due("the other TIMER", x.read(70 + i), 0);
        }
        Check.due("SERIAL: none came", x.read(30), 0);
        Check.due("SERIAL: none is being sent", x.read(31), 2);
        Check.due("SERIAL: its mode", x.read(32), 0);
        for (int i = 0; i < 11; i++) {
            Check.due("ROWS", x.read(40 + i), 0);
        }
        Check.due("no line", x.count(6) + x.count(7), 0);
        whatStays(x);
    }

    private static void whatStays(SystemParts x) {
        Check.due("STORE", x.read(1), 11);
        Check.due("FIXED", x.read(11), 12);
        x.write(40, 6);
        x.write(41, 1);
        x.step(10);
        Check.due("ROWS' rows", x.read(43), 13);
        Check.due("a way", x.line(2, Kinds.WAY, 0), Kinds.RISE);
        Check.due("a rank", x.line(3, Kinds.RANK, 0), 5);
        Check.due("a hidden one", x.line(4, Kinds.HIDDEN, 0), 1);
    }

    private static void noChangeByReset() {
        SystemParts x = Kinds.withTimers(1);
        x.line(0, Kinds.WAY, Kinds.CHANGE);
        Kinds.raise(x, 0);
        x.take();
        x.reset();
        Check.due("a line that a reset put down has not gone down", x.asks(0), 0);
        x.step(2);
        Check.due("nor in the steps behind it", x.asks(0), 0);
        Kinds.raise(x, 0);
        Check.due("it goes up as at first", x.asks(0), 3);
    }
}

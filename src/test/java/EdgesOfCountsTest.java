/** The boundary cases of COUNTS (Terms), and of count (promise 14). */
final class EdgesOfCountsTest {
    private static final int BIG = Integer.MAX_VALUE;
    private static final int SMALL = Integer.MIN_VALUE;
    private static final int STEPS = 0;
    private static final int READS = 1;
    private static final int WRITES = 2;
    private static final int FAULTS = 3;

    public static void main(String[] args) {
        theReadItselfCountsAhead();
        theWriteItselfCountsAhead();
        whateverIsWritten();
        onlyThatRegister();
        sinceThePartCame();
        writesThatWereDone();
        faults();
        loadsAndReceivesAreNone();
        sinceTheLastReset();
        aResetWithinTheRead();
        itNeverAsks();
        eachWhatAndItsEdges();
        whateverACountsSays();
        numbersInAllSerials();
        bitsOfLines();
        Check.end();
    }

    private static SystemParts counts(int waits) {
        SystemParts x = new SystemParts();
        x.part(Kinds.COUNTS, 0, 0, 0, waits);
        return x;
    }

    /** "the read or write itself counts ahead": the read and its steps. */
    private static void theReadItselfCountsAhead() {
        for (int waits : new int[] {0, 7}) {
            Check.due("steps, waits " + waits, counts(waits).read(STEPS), 1 + waits);
            Check.due("reads, waits " + waits, counts(waits).read(READS), 1);
            Check.due("writes, waits " + waits, counts(waits).read(WRITES), 0);
            Check.due("faults, waits " + waits, counts(waits).read(FAULTS), 0);
        }
    }

    /** The write and its steps are counted, and then made 0. */
    private static void theWriteItselfCountsAhead() {
        for (int waits : new int[] {0, 7}) {
            SystemParts x = counts(waits);
            x.write(STEPS, 5);
            Check.due("steps", x.read(STEPS), 1 + waits);
            SystemParts y = counts(waits);
            y.write(WRITES, 5);
            Check.due("the write that made it 0", y.read(WRITES), 0);
            SystemParts z = counts(waits);
            z.write(STEPS, 5);
            Check.due("a write of another register", z.read(WRITES), 1);
        }
    }

    /** "(whatever is written makes it 0 ..)". */
    private static void whateverIsWritten() {
        for (int v : new int[] {0, 1, -1, 7, BIG, SMALL}) {
            SystemParts x = counts(0);
            x.step(3);
            x.read(STEPS);
            Check.fault("a fault", () -> x.read(100));
            for (int register = 0; register < 4; register++) {
                x.write(register, v);
            }
            Check.due("steps: three writes behind, and the read's", x.read(STEPS), 4);
            Check.due("reads", x.read(READS), 2);
            Check.due("writes: one behind", x.read(WRITES), 1);
            Check.due("faults", x.read(FAULTS), 0);
        }
    }

    private static void onlyThatRegister() {
        for (int register = 0; register < 4; register++) {
            SystemParts x = counts(0);
            x.step(10);
            x.read(STEPS);
            x.read(STEPS);
            Check.fault("a fault", () -> x.write(100, 1));
            x.write(register, 1);
            Check.due("steps", x.read(STEPS), register == STEPS ? 1 : 14);
            Check.due("reads", x.read(READS), register == READS ? 2 : 4);
            Check.due("writes", x.read(WRITES), register == WRITES ? 0 : 1);
            Check.due("faults", x.read(FAULTS), register == FAULTS ? 0 : 1);
        }
    }

    /** "each since the part came". */
    private static void sinceThePartCame() {
        SystemParts x = counts(0);
        x.step(5);
        x.read(STEPS);
        x.write(FAULTS, 0);
        Check.fault("a fault", () -> x.read(100));
        x.part(Kinds.COUNTS, 10, 0, 0, 0);
        Check.due("the one that came later: faults", x.read(10 + FAULTS), 0);
        Check.due("writes", x.read(10 + WRITES), 0);
        Check.due("reads", x.read(10 + READS), 3);
        Check.due("steps", x.read(10 + STEPS), 4);
        Check.due("the one that was there: faults", x.read(FAULTS), 1);
        Check.due("writes", x.read(WRITES), 1);
        Check.due("reads", x.read(READS), 8);
        Check.due("steps", x.read(STEPS), 15);
    }

    /** "2 writes that were done": a lost one was done, one that is a fault was not. */
    private static void writesThatWereDone() {
        SystemParts x = counts(0);
        x.part(Kinds.FIXED, 10, 1, 0, 0);
        x.part(Kinds.SERIAL, 20, 0, 0, 0);
        x.part(Kinds.STORE, 30, 1, 0, 0);
        Check.fault("a FIXED", () -> x.write(10, 1));
        Check.fault("no part", () -> x.write(100, 1));
        Check.outOfBounds("no place", () -> x.write(-1, 1));
        Check.due("none was done", x.read(WRITES), 0);
        Check.due("none was done", x.count(3), 0);
        x.write(30, 1);
        Check.due("one was done", x.read(WRITES), 1);
        x.write(20, 1);
        x.write(20, 2);
        Check.due("one more and a lost one", x.read(WRITES), 3);
        Check.due("one more and a lost one", x.count(3), 3);
    }

    private static void faults() {
        SystemParts x = counts(0);
        x.part(Kinds.FIXED, 10, 1, 0, 0);
        Check.fault("a read", () -> x.read(100));
        Check.due("one", x.count(4), 1);
        Check.fault("a write", () -> x.write(100, 1));
        Check.due("two", x.count(4), 2);
        Check.fault("a FIXED", () -> x.write(10, 1));
        Check.due("three", x.count(4), 3);
        Check.outOfBounds("no place is no fault", () -> x.read(65536));
        Check.refusedArgument("a refused load is none", () -> x.load(100, 1));
        Check.due("three", x.read(FAULTS), 3);
        Check.due("a fault is no read", x.read(READS), 2);
    }

    private static void loadsAndReceivesAreNone() {
        SystemParts x = counts(0);
        x.part(Kinds.STORE, 10, 1, 0, 7);
        x.part(Kinds.SERIAL, 20, 0, 0, 7);
        x.load(10, 1);
        x.receive(2, 1);
        Check.due("steps", x.read(STEPS), 1);
        Check.due("reads", x.read(READS), 2);
        Check.due("writes", x.read(WRITES), 0);
    }

    /** "the last reset". */
    private static void sinceTheLastReset() {
        SystemParts x = counts(0);
        x.step(1000);
        x.write(READS, 1);
        Check.fault("a fault", () -> x.read(100));
        x.reset();
        for (int what : new int[] {2, 3, 4}) {
            Check.due("count(" + what + ")", x.count(what), 0);
        }
        Check.due("faults", x.read(FAULTS), 0);
        Check.due("writes", x.read(WRITES), 0);
        Check.due("reads", x.read(READS), 3);
        Check.due("steps", x.read(STEPS), 4);
    }

    /** A reset in the steps of a read: those behind it count, and the read itself. */
    private static void aResetWithinTheRead() {
        SystemParts x = counts(7);
        x.part(Kinds.TIMER, 10, 0, 0, 0);
        x.write(11, 3);
        x.write(12, 9);
        Check.due("five steps behind the third", x.read(STEPS), 5);
        Check.due("reads", x.count(2), 1);
        Check.due("writes", x.count(3), 0);
        SystemParts y = counts(7);
        y.part(Kinds.TIMER, 10, 0, 0, 0);
        y.write(11, 8);
        y.write(12, 9);
        Check.due("a reset in its last step", y.read(STEPS), 0);
        SystemParts z = counts(0);
        z.part(Kinds.TIMER, 10, 0, 0, 0);
        z.write(11, 1);
        z.write(12, 9);
        Check.due("the read counts behind the reset", z.read(READS), 1);
    }

    private static void itNeverAsks() {
        SystemParts x = new SystemParts();
        x.part(Kinds.COUNTS, 0, 0, 1, 0);
        x.part(Kinds.STORE, 10, 1, 2, 0);
        x.part(Kinds.FIXED, 20, 1, 3, 0);
        x.write(10, -1);
        x.load(20, -1);
        x.read(20);
        x.read(3);
        x.step(100);
        Check.due("none is up", x.count(6), 0);
    }

    /** Promise 14: "NONE for another what". */
    private static void eachWhatAndItsEdges() {
        for (Scene scene : Scene.values()) {
            SystemParts x = scene.make();
            for (int bad : new int[] {SMALL, -2, -1, 10, 11, 16, BIG}) {
                Check.due("count(" + bad + ")", x.count(bad), SystemParts.NONE);
            }
        }
        int[] busy = {29, 8, 1, 13, 0, 0, 1 << 15 | 1 << 4 | 1 << 2, 1 << 15 | 1 << 4 | 1 << 2, 1, 1};
        int[] reset = {29, 8, 0, 0, 0, 1, 0, 0, 0, 0};
        for (int what = 0; what <= 9; what++) {
            Check.due("count(" + what + ") of a new one", Scene.NEW.make().count(what), 0);
            Check.due("count(" + what + ") of a busy one", Scene.BUSY.make().count(what), busy[what]);
            Check.due("count(" + what + ") behind a reset", Scene.RESET.make().count(what), reset[what]);
        }
    }

    /** "2 to 4 since the last reset, whatever a COUNTS says". */
    private static void whateverACountsSays() {
        SystemParts x = new SystemParts();
        x.part(Kinds.STORE, 0, 1, 0, 0);
        x.read(0);
        x.write(0, 1);
        Check.fault("a fault", () -> x.read(100));
        x.part(Kinds.COUNTS, 10, 0, 0, 0);
        Check.due("reads ahead of the COUNTS", x.count(2), 1);
        Check.due("writes ahead of the COUNTS", x.count(3), 1);
        Check.due("faults ahead of the COUNTS", x.count(4), 1);
        for (int register = 0; register < 4; register++) {
            x.write(10 + register, 9);
        }
        Check.due("reads", x.count(2), 1);
        Check.due("writes", x.count(3), 5);
        Check.due("faults", x.count(4), 1);
        Check.due("time, whatever a COUNTS says of steps", x.count(0), 6);
    }

    /** "numbers to be read in all SERIALs (8), sent (9) since the last reset". */
    private static void numbersInAllSerials() {
        SystemParts x = new SystemParts();
        for (int i = 0; i < 12; i++) {
            x.part(Kinds.SERIAL, 10 * i, 0, 0, 0);
        }
        for (int i = 0; i < 12; i++) {
            for (int k = 0; k <= i; k++) {
                x.receive(i, k);
            }
        }
        Check.due("to be read in twelve", x.count(8), 78);
        x.read(0);
        x.read(0);
        Check.due("one was taken, of the other there was none", x.count(8), 77);
        for (int i = 0; i < 12; i++) {
            x.write(10 * i, i);
        }
        Check.due("the last four are being sent still", x.count(9), 8);
        x.step(4);
        Check.due("sent by twelve", x.count(9), 12);
        x.reset();
        Check.due("to be read behind a reset", x.count(8), 0);
        Check.due("sent since the reset", x.count(9), 0);
    }

    /** "lines that are up (6), pending (7) as bits". */
    private static void bitsOfLines() {
        for (int line : new int[] {0, 1, 14, 15}) {
            SystemParts x = new SystemParts();
            x.part(Kinds.SERIAL, 0, 0, line, 0);
            x.line(line, Kinds.WAY, Kinds.CHANGE);
            Check.due("none up", x.count(6), 0);
            Check.due("none pending", x.count(7), 0);
            x.write(2, 2);
            Check.due("up", x.count(6), 1 << line);
            Check.due("pending", x.count(7), 1 << line);
            x.write(2, 0);
            Check.due("down", x.count(6), 0);
            Check.due("pending still", x.count(7), 1 << line);
            x.line(line, Kinds.HIDDEN, 1);
            Check.due("pending though hidden", x.count(7), 1 << line);
        }
    }
}

/** The boundary cases of STORE and FIXED (Terms, and promise 3). */
final class EdgesOfStoreTest {
    private static final int BIG = Integer.MAX_VALUE;
    private static final int SMALL = Integer.MIN_VALUE;
    private static final int[] NUMBERS = {0, 1, -1, 255, 256, 65535, 65536, BIG, SMALL};

    public static void main(String[] args) {
        whatIsWrittenIsRead();
        firstAndLastPlace();
        aFixedIsNotWritten();
        loadAtItsEdges();
        loadElsewhere();
        loadTellsTheOneBefore();
        loadTakesNoStep();
        Check.end();
    }

    /** "what is written is read", "32 bits". */
    private static void whatIsWrittenIsRead() {
        SystemParts x = new SystemParts();
        x.part(Kinds.STORE, 100, 2, 0, 0);
        for (int v : NUMBERS) {
            x.write(100, v);
            Check.due("what was written", x.read(100), v);
            Check.due("read again", x.read(100), v);
            Check.due("the place beside it", x.read(101), 0);
        }
    }

    private static void firstAndLastPlace() {
        for (int size : new int[] {1, 2, 63, 64}) {
            SystemParts x = new SystemParts();
            x.part(Kinds.STORE, 100, size, 0, 0);
            for (int i = 0; i < size; i++) {
                x.write(100 + i, 1000 + i);
            }
            for (int i = 0; i < size; i++) {
                Check.due("place " + i + " of " + size, x.read(100 + i), 1000 + i);
            }
            Check.fault("ahead of the first", () -> x.write(99, 1));
            Check.fault("behind the last", () -> x.write(100 + size, 1));
        }
    }

    /** "1 FIXED: the same, but a write is a FAULT". */
    private static void aFixedIsNotWritten() {
        for (int size : new int[] {1, 64}) {
            SystemParts x = new SystemParts();
            x.part(Kinds.FIXED, 100, size, 0, 0);
            int last = 99 + size;
            x.load(100, 5);
            x.load(last, 6);
            for (int place : new int[] {100, last}) {
                Check.fault("a write", () -> x.write(place, 9));
                Check.due("the number stays", x.read(place), size == 1 || place == last ? 6 : 5);
                int same = x.read(place);
                Check.fault("a write of the same number", () -> x.write(place, same));
            }
            Check.due("faults", x.count(4), 4);
            Check.due("no writes", x.count(3), 0);
        }
    }

    /** Promise 3: "when no such part has the place": the last that has it, and the first that has not. */
    private static void loadAtItsEdges() {
        for (int kind = 0; kind <= 1; kind++) {
            SystemParts x = new SystemParts();
            x.part(kind, 100, 64, 0, 0);
            Check.refusedArgument("ahead of the first", () -> x.load(99, 1));
            Check.due("the first", x.load(100, 1), 0);
            Check.due("the last", x.load(163, 2), 0);
            Check.refusedArgument("behind the last", () -> x.load(164, 1));
            Check.due("the first", x.read(100), 1);
            Check.due("the last", x.read(163), 2);
            Check.due("the second", x.read(101), 0);
        }
    }

    private static void loadElsewhere() {
        SystemParts x = new SystemParts();
        Check.refusedArgument("no part at all", () -> x.load(0, 1));
        int[] lengths = {0, 0, 4, 3, 11, 4};
        for (int kind = 2; kind <= 5; kind++) {
            x.part(kind, 100 * kind, 0, 0, 0);
        }
        for (int kind = 2; kind <= 5; kind++) {
            for (int i = 0; i < lengths[kind]; i++) {
                int place = 100 * kind + i;
                Check.refusedArgument("load at " + place, () -> x.load(place, 1));
            }
        }
        for (int bad : new int[] {SMALL, -1, 65536, BIG}) {
            Check.refusedArgument("load at " + bad, () -> x.load(bad, 1));
        }
        Check.due("no faults", x.count(4), 0);
        Check.due("a TIMER's limit", x.read(201), 0);
    }

    /** "the one before". */
    private static void loadTellsTheOneBefore() {
        SystemParts x = new SystemParts();
        x.part(Kinds.FIXED, 0, 1, 0, 0);
        x.part(Kinds.STORE, 1, 1, 0, 0);
        int before = 0;
        for (int v : NUMBERS) {
            Check.due("FIXED, the one before", x.load(0, v), before);
            Check.due("FIXED", x.read(0), v);
            Check.due("STORE, the one before", x.load(1, v), before);
            Check.due("STORE", x.read(1), v);
            before = v;
        }
        x.write(1, 77);
        Check.due("what was written is the one before", x.load(1, 78), 77);
        x.reset();
        Check.due("behind a reset too", x.load(1, 79), 78);
        Check.due("behind a reset too", x.load(0, 79), before);
    }

    /** "is put in, without a step": however long the part waits; nor is it a read or a write. */
    private static void loadTakesNoStep() {
        SystemParts x = new SystemParts();
        x.part(Kinds.STORE, 0, 1, 0, 7);
        x.part(Kinds.FIXED, 10, 1, 0, 7);
        x.part(Kinds.COUNTS, 20, 0, 0, 0);
        x.part(Kinds.SERIAL, 30, 0, 6, 0);
        x.write(32, 1);
        x.receive(3, 1);
        x.load(0, 1);
        x.load(10, 1);
        Check.due("no step", x.count(0), 1);
        Check.due("no line goes up behind it", x.asks(6), 0);
        Check.due("no read", x.count(2), 0);
        Check.due("no write but the one of the mode", x.count(3), 1);
        Check.due("COUNTS of steps", x.read(20), 2);
        Check.due("COUNTS of reads", x.read(21), 2);
        Check.due("COUNTS of writes", x.read(22), 1);
    }
}

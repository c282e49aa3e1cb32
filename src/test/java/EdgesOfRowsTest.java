/** The boundary cases of ROWS (Terms). */
final class EdgesOfRowsTest {
    private static final int BIG = Integer.MAX_VALUE;
    private static final int SMALL = Integer.MIN_VALUE;
    private static final int ROW = 0;
    private static final int WORK = 1;
    private static final int DONE = 2;
    private static final int WINDOW = 3;
    private static final int WINDOW_END = 11;
    private static final int LINE = 2;

    public static void main(String[] args) {
        eightRowsOfEight();
        theWindowIsWhole();
        theRowHasThreeBits();
        oneAndTwoBegin();
        elseNothing();
        whileItIsAtWorkNothing();
        tenStepsOfReading();
        tenStepsOfWriting();
        theStepsOfTheWriteThatBegins();
        aWriteOfTheWindowWhileItWorks();
        theRowThatThereWas();
        aWriteMakesDoneNought();
        doneIsWrittenInTheLastStep();
        asksWhileItIsDone();
        rowsOfTheirOwn();
        Check.end();
    }

    private static SystemParts rows() {
        SystemParts x = new SystemParts();
        x.part(Kinds.ROWS, 0, 0, LINE, 0);
        return x;
    }

    /** Row 0 holds 11 .. 18, and the window is all 0. */
    private static SystemParts withARow() {
        SystemParts x = rows();
        for (int i = 0; i < 8; i++) {
            x.write(WINDOW + i, 11 + i);
        }
        work(x, 0, 2);
        for (int i = 0; i < 8; i++) {
            x.write(WINDOW + i, 0);
        }
        x.write(DONE, 0);
        return x;
    }

    private static void work(SystemParts x, int row, int how) {
        x.write(ROW, row);
        x.write(WORK, how);
        x.step(10);
    }

    /** "8 rows of 8 numbers, and a WINDOW of 8"; "3 to 10 the window". */
    private static void eightRowsOfEight() {
        SystemParts x = rows();
        for (int row : new int[] {0, 1, 6, 7}) {
            for (int i = WINDOW; i < WINDOW_END; i++) {
                x.write(i, 100 * row + i);
            }
            work(x, row, 2);
        }
        for (int row : new int[] {7, 0, 6, 1}) {
            work(x, row, 1);
            for (int i = WINDOW; i < WINDOW_END; i++) {
                Check.due("row " + row + " place " + i, x.read(i), 100 * row + i);
            }
        }
        work(x, 5, 1);
        for (int i = WINDOW; i < WINDOW_END; i++) {
            Check.due("a row that was never written", x.read(i), 0);
        }
        Check.fault("behind the window", () -> x.read(WINDOW_END));
        Check.fault("behind the window", () -> x.write(WINDOW_END, 1));
        x.write(DONE, 77);
        Check.due("ahead of the window", x.read(DONE), 0);
        Check.due("the window's first is not that", x.read(WINDOW), 0);
    }

    /** "32 bits". */
    private static void theWindowIsWhole() {
        SystemParts x = rows();
        for (int v : new int[] {0, 255, 256, -1, BIG, SMALL}) {
            x.write(WINDOW, v);
            x.write(WINDOW_END - 1, v);
            Check.due("the first", x.read(WINDOW), v);
            Check.due("the last", x.read(WINDOW_END - 1), v);
            work(x, 3, 2);
            x.write(WINDOW, 5);
            x.write(WINDOW_END - 1, 5);
            work(x, 3, 1);
            Check.due("the first, from its row", x.read(WINDOW), v);
            Check.due("the last, from its row", x.read(WINDOW_END - 1), v);
        }
    }

    /** "Register 0 is the row (a write: its lowest three bits)". */
    private static void theRowHasThreeBits() {
        SystemParts x = rows();
        for (int v : new int[] {0, 1, 6, 7, 8, 9, 15, 16, -1, -8, BIG, SMALL}) {
            x.write(ROW, v);
            Check.due("row of " + v, x.read(ROW), v & 7);
        }
        SystemParts y = withARow();
        work(y, 8, 1);
        Check.due("row 8 is row 0", y.read(WINDOW), 11);
        SystemParts z = withARow();
        work(z, 7, 1);
        Check.due("row 7 is not", z.read(WINDOW), 0);
    }

    /** "1 a write of 1 begins to read the row into the window, 2 to write the window to it". */
    private static void oneAndTwoBegin() {
        for (int how = 1; how <= 2; how++) {
            SystemParts x = rows();
            x.write(WORK, how);
            Check.due("what it works at", x.read(WORK), how);
            x.step(8);
            Check.due("behind the tenth step", x.read(WORK), 0);
            Check.due("done", x.read(DONE), 1);
        }
        SystemParts x = withARow();
        x.write(WINDOW, 5);
        work(x, 0, 2);
        Check.due("writing leaves the window", x.read(WINDOW), 5);
        work(x, 1, 1);
        work(x, 0, 1);
        Check.due("the first was written", x.read(WINDOW), 5);
        Check.due("the others too", x.read(WINDOW + 1), 0);
        Check.due("the last too", x.read(WINDOW_END - 1), 0);
        SystemParts y = withARow();
        work(y, 0, 1);
        y.write(WINDOW, 99);
        work(y, 0, 1);
        Check.due("reading leaves the row", y.read(WINDOW), 11);
    }

    /** "(else nothing ..)". */
    private static void elseNothing() {
        for (int v : new int[] {SMALL, -2, -1, 0, 3, 4, 5, 8, 9, 10, 257, 258, 65537, SMALL + 1, SMALL + 2, BIG}) {
            SystemParts x = withARow();
            x.write(WINDOW, 5);
            x.write(WORK, v);
            Check.due("a write of " + v, x.read(WORK), 0);
            x.step(20);
            Check.due("nothing was read", x.read(WINDOW), 5);
            Check.due("nothing is done", x.read(DONE), 0);
            x.write(WINDOW, 6);
            Check.due("the window is free", x.read(WINDOW), 6);
            work(x, 0, 1);
            Check.due("nothing was written", x.read(WINDOW), 11);
        }
    }

    /** "(.. while it is at work nothing)": from the first step on to the last but one. */
    private static void whileItIsAtWorkNothing() {
        for (int between = 0; between <= 9; between++) {
            for (int v = 0; v <= 3; v++) {
                SystemParts x = withARow();
                x.write(WORK, 1);
                if (between > 0) {
                    x.step(between);
                }
                x.write(WORK, v);
                if (between < 9) {
                    beganNothing(x, 9 - between, v);
                } else {
                    beganAnew(x, v);
                }
            }
        }
    }

    private static void beganNothing(SystemParts x, int stepsLeft, int v) {
        if (stepsLeft > 1) {
            x.step(stepsLeft - 1);
        }
        Check.due("it is not done ahead of its time, " + v, x.asks(LINE), 0);
        x.step(1);
        Check.due("it is done in its time, " + v, x.asks(LINE), 3);
        Check.due("it works at nothing, " + v, x.read(WORK), 0);
        Check.due("it worked at what it began, " + v, x.read(WINDOW), 11);
    }

    /** The write's own step was the tenth: the work is at its end when the write is done. */
    private static void beganAnew(SystemParts x, int v) {
        Check.due("it is done in the write's own step", x.asks(LINE), 3);
        Check.due("it works at " + v, x.read(WORK), v == 1 || v == 2 ? v : 0);
    }

    /** "It works 10 steps .. behind the last one the numbers are there, and it is done": when it reads. */
    private static void tenStepsOfReading() {
        for (int i = 0; i < 8; i++) {
            SystemParts x = withARow();
            x.write(WORK, 1);
            x.step(8);
            Check.due("behind the ninth step", x.read(WINDOW + i), 0);
            Check.due("behind the tenth", x.read(WINDOW + i), 11 + i);
        }
        SystemParts y = withARow();
        y.write(WORK, 1);
        y.step(8);
        Check.due("it works behind the ninth step", y.read(WORK), 1);
        Check.due("not behind the tenth", y.read(WORK), 0);
        SystemParts z = withARow();
        z.write(WORK, 1);
        z.step(8);
        Check.due("not done behind the ninth step", z.read(DONE), 0);
        Check.due("done behind the tenth", z.read(DONE), 1);
    }

    /** The same when it writes: a reset behind the ninth step leaves the row as it was. */
    private static void tenStepsOfWriting() {
        for (int steps = 9; steps <= 10; steps++) {
            SystemParts x = withARow();
            for (int i = 0; i < 8; i++) {
                x.write(WINDOW + i, 21 + i);
            }
            x.write(WORK, 2);
            x.step(steps);
            Check.due("asks behind step " + steps, x.asks(LINE), steps == 10 ? 3 : 0);
            x.reset();
            work(x, 0, 1);
            for (int i = 0; i < 8; i++) {
                Check.due("the row behind step " + steps, x.read(WINDOW + i), (steps == 10 ? 21 : 11) + i);
            }
        }
    }

    private static void theStepsOfTheWriteThatBegins() {
        SystemParts x = new SystemParts();
        x.part(Kinds.ROWS, 0, 0, LINE, 7);
        x.write(WORK, 1);
        x.step(9);
        Check.due("the steps of that write are ahead of the ten", x.asks(LINE), 0);
        x.step(1);
        Check.due("ten behind it", x.asks(LINE), 3);
    }

    /** "(a write while it works is lost)": at the first place and the last, up to the last step but one. */
    private static void aWriteOfTheWindowWhileItWorks() {
        for (int place : new int[] {WINDOW, WINDOW_END - 1}) {
            for (int how = 1; how <= 2; how++) {
                for (int between : new int[] {0, 1, 8, 9}) {
                    SystemParts x = rows();
                    x.write(place, 5);
                    work(x, 0, 2);
                    x.write(WORK, how);
                    if (between > 0) {
                        x.step(between);
                    }
                    x.write(place, 6);
                    x.step(10);
                    int want = between == 9 ? 6 : 5;
                    Check.due("how " + how + ", steps between " + between, x.read(place), want);
                    work(x, 0, 1);
                    Check.due("the row has what there was at first", x.read(place), 5);
                }
            }
        }
        SystemParts y = rows();
        y.write(WORK, 1);
        y.write(ROW, 3);
        Check.due("the row is no part of the window", y.read(ROW), 3);
    }

    /** "for the row that there was when it began". */
    private static void theRowThatThereWas() {
        for (int between : new int[] {0, 8}) {
            SystemParts x = withARow();
            x.write(WORK, 1);
            if (between > 0) {
                x.step(between);
            }
            x.write(ROW, 7);
            x.step(10);
            Check.due("it read row 0", x.read(WINDOW), 11);
            Check.due("the register is the new one", x.read(ROW), 7);
            x.write(WINDOW, 50);
            x.write(WORK, 2);
            x.write(ROW, 0);
            x.step(10);
            work(x, 0, 1);
            Check.due("it wrote not row 0", x.read(WINDOW), 11);
            work(x, 7, 1);
            Check.due("it wrote row 7", x.read(WINDOW), 50);
        }
    }

    /** "2 whether it is DONE (1; a write makes it 0)": whatever is written, and it begins nothing. */
    private static void aWriteMakesDoneNought() {
        for (int v : new int[] {0, 1, 2, -1, BIG, SMALL}) {
            SystemParts x = rows();
            x.write(DONE, v);
            Check.due("not done, a write of " + v, x.read(DONE), 0);
            Check.due("it works at nothing", x.read(WORK), 0);
            work(x, 0, 1);
            Check.due("done", x.read(DONE), 1);
            Check.due("a read leaves it", x.read(DONE), 1);
            x.write(DONE, v);
            Check.due("done, a write of " + v, x.read(DONE), 0);
        }
    }

    private static void doneIsWrittenInTheLastStep() {
        SystemParts x = rows();
        x.write(WORK, 1);
        x.step(9);
        x.write(DONE, 0);
        Check.due("done in the write's own step, then written", x.asks(LINE), 0);
        Check.due("it works no more", x.read(WORK), 0);
        SystemParts y = rows();
        y.write(WORK, 1);
        y.step(8);
        y.write(DONE, 0);
        Check.due("written one step ahead", y.asks(LINE), 0);
        y.step(1);
        Check.due("done behind it", y.asks(LINE), 3);
    }

    /** "It asks while it is done." */
    private static void asksWhileItIsDone() {
        SystemParts x = rows();
        x.step(1);
        Check.due("at first", x.asks(LINE), 0);
        x.write(WORK, 2);
        x.step(9);
        Check.due("at work", x.asks(LINE), 0);
        x.step(1);
        Check.due("done", x.asks(LINE), 3);
        x.step(100);
        Check.due("done for long", x.asks(LINE), 3);
        x.write(DONE, 1);
        Check.due("done no more", x.asks(LINE), 0);
    }

    private static void rowsOfTheirOwn() {
        SystemParts x = rows();
        x.part(Kinds.ROWS, 20, 0, 3, 0);
        x.write(WINDOW, 5);
        x.write(20 + WINDOW, 6);
        work(x, 0, 2);
        Check.due("the other one is not done", x.asks(3), 0);
        x.write(20 + WORK, 1);
        x.step(10);
        Check.due("its row is its own", x.read(20 + WINDOW), 0);
    }
}

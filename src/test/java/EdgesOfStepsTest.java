/** The boundary cases of steps, and of reads and writes, which take steps (Terms, and promises 4 to 6). */
final class EdgesOfStepsTest {
    private static final int BIG = Integer.MAX_VALUE;
    private static final int SMALL = Integer.MIN_VALUE;

    public static void main(String[] args) {
        oneToAThousand();
        whetherThereWasAReset();
        aResetInAReadIsNoneOfTheSteps();
        aStepWithoutParts();
        inTheOrderInWhichTheyCame();
        aTimerBehindAReset();
        noLinesInAStepThatIsReset();
        linesOfTheStepsBehindAReset();
        oneStepAndAsManyAsThePartWaits();
        theStepsComeFirst();
        aPlaceWithNoPart();
        aFixedHasItsSteps();
        howManyStepsAWriteTook();
        accessesThatAreReset();
        linesBehindAFault();
        theLastCallOfAnObject();
        Check.end();
    }

    /** Promise 6: "So many steps (1 .. 1000)". */
    private static void oneToAThousand() {
        SystemParts x = new SystemParts();
        for (int bad : new int[] {SMALL, -1000, -1, 0, 1001, BIG}) {
            Check.refusedArgument("step(" + bad + ")", () -> x.step(bad) ? 1 : 0);
            Check.due("the time", x.count(0), 0);
        }
        Check.due("step(1)", x.step(1), false);
        Check.due("the time", x.count(0), 1);
        Check.due("step(999)", x.step(999), false);
        Check.due("the time", x.count(0), 1000);
        Check.due("step(1000)", x.step(1000), false);
        Check.due("the time", x.count(0), 2000);
    }

    private static SystemParts resetIn(int steps) {
        SystemParts x = new SystemParts();
        x.part(Kinds.TIMER, 0, 0, 0, 0);
        x.write(1, steps);
        x.write(2, 9);
        return x;
    }

    /** "whether there was a reset among them": in the first, the last, one amidst, one behind. */
    private static void whetherThereWasAReset() {
        for (int n : new int[] {1, 2, 10, 1000}) {
            for (int in : new int[] {1, n, n + 1}) {
                SystemParts x = resetIn(in);
                Check.due("a reset in step " + in + " of " + n, x.step(n), in <= n);
                Check.due("all the steps were done", x.count(0), 2 + n);
                Check.due("the cause", x.count(5), in <= n ? 2 : 0);
                Check.due("the next step", x.step(1), in > n);
            }
        }
    }

    private static void aResetInAReadIsNoneOfTheSteps() {
        SystemParts x = resetIn(1);
        x.read(0);
        Check.due("the read was reset", x.count(5), 2);
        Check.due("the steps behind it were not", x.step(5), false);
        x.reset();
        Check.due("reset() is not among them", x.step(1), false);
    }

    private static void aStepWithoutParts() {
        SystemParts x = new SystemParts();
        Check.due("no reset", x.step(1), false);
        Check.due("no lines", x.count(6), 0);
        Check.due("the time", x.count(0), 1);
    }

    /**
     * "then all parts, in the order in which they came .. A reset in a step ends it (no part behind does
     * anything ..)": rows that end their work in the step of the reset keep what they wrote, if they are ahead.
     */
    private static void inTheOrderInWhichTheyCame() {
        for (int rowsAt = 0; rowsAt < 12; rowsAt++) {
            int timerAt = 5;
            if (rowsAt == timerAt) {
                continue;
            }
            SystemParts x = new SystemParts();
            for (int i = 0; i < 12; i++) {
                x.part(i == timerAt ? Kinds.TIMER : i == rowsAt ? Kinds.ROWS : Kinds.STORE, 1000 - 20 * i, 1, 0, 0);
            }
            int rows = 1000 - 20 * rowsAt;
            int timer = 1000 - 20 * timerAt;
            x.write(rows + 3, 55);
            x.write(timer + 1, 11);
            x.write(timer + 2, 9);
            x.write(rows + 1, 2);
            Check.due("one step ahead of both", x.step(9), false);
            Check.due("both in one step", x.step(1), true);
            x.write(rows + 1, 1);
            x.step(10);
            Check.due("rows that came as part " + rowsAt, x.read(rows + 3), rowsAt < timerAt ? 55 : 0);
        }
    }

    /** Two timers that would fire in one step: the one behind does not go on, and is as at first. */
    private static void aTimerBehindAReset() {
        SystemParts x = new SystemParts();
        x.part(Kinds.TIMER, 0, 0, 1, 0);
        x.part(Kinds.TIMER, 10, 0, 2, 0);
        x.write(1, 3);
        x.write(11, 2);
        x.write(2, 9);
        x.write(12, 9);
        Check.due("both would", x.step(2), true);
        Check.due("one reset is enough", x.step(10), false);
        Check.due("the second one's count", x.read(10), 0);
        Check.due("the second one's FIRED", x.read(13), 0);
        Check.due("the time went on by one a step", x.count(0), 18);
    }

    /** "(.. no lines)": a part ahead that begins to ask in that step, and a line that was up. */
    private static void noLinesInAStepThatIsReset() {
        SystemParts x = new SystemParts();
        x.part(Kinds.TIMER, 0, 0, 1, 0);
        x.part(Kinds.SERIAL, 10, 0, 2, 0);
        x.part(Kinds.TIMER, 20, 0, 3, 0);
        for (int line = 1; line <= 3; line++) {
            x.line(line, Kinds.WAY, Kinds.CHANGE);
        }
        x.write(12, 2);
        Check.due("line 2 is up", x.asks(2), 3);
        x.take();
        x.write(1, 5);
        x.write(21, 4);
        x.write(2, 5);
        x.write(22, 13);
        Check.due("not yet", x.step(3), false);
        Check.due("line 2 alone", x.count(6), 4);
        Check.due("they fire in one step", x.step(1), true);
        Check.due("none is up", x.count(6), 0);
        Check.due("none is pending", x.count(7), 0);
        x.step(1);
        Check.due("nor behind the next step", x.count(7), 0);
    }

    private static void linesOfTheStepsBehindAReset() {
        SystemParts x = resetIn(2);
        x.part(Kinds.ROWS, 10, 0, 4, 0);
        x.write(11, 1);
        Check.due("a reset", x.step(30), true);
        Check.due("what was worked at is never done", x.asks(4), 0);
    }

    /** "A READ or WRITE of a place by the machine takes 1 step and as many more as the part WAITS". */
    private static void oneStepAndAsManyAsThePartWaits() {
        for (int kind = 0; kind <= 5; kind++) {
            for (int waits : new int[] {0, 1, 6, 7}) {
                SystemParts x = new SystemParts();
                x.part(kind, 0, 1, 0, waits);
                x.part(Kinds.STORE, 100, 1, 0, 7 - waits);
                x.read(0);
                Check.due("a read of kind " + kind, x.count(0), 1 + waits);
                if (kind != Kinds.FIXED) {
                    Check.due("a write of kind " + kind, x.write(0, 1), 1 + waits);
                    Check.due("the time", x.count(0), 2 * (1 + waits));
                }
            }
        }
    }

    /** "these come first, then it is done". */
    private static void theStepsComeFirst() {
        SystemParts x = new SystemParts();
        x.part(Kinds.SERIAL, 0, 0, 0, 3);
        x.write(0, 7);
        Check.due("it was sent in the steps of the read", x.read(1), 2);
        SystemParts y = new SystemParts();
        y.part(Kinds.SERIAL, 0, 0, 0, 2);
        y.write(0, 7);
        Check.due("three steps are too few", y.read(1), 0);
        SystemParts z = new SystemParts();
        z.part(Kinds.STORE, 0, 1, 0, 7);
        z.part(Kinds.TIMER, 10, 0, 5, 0);
        z.write(11, 8);
        z.write(12, 5);
        z.read(0);
        Check.due("a timer fired in the steps of a read of another part", z.asks(5), 3);
        SystemParts w = new SystemParts();
        w.part(Kinds.STORE, 0, 1, 0, 6);
        w.part(Kinds.TIMER, 10, 0, 5, 0);
        w.write(11, 8);
        w.write(12, 5);
        w.write(0, 1);
        Check.due("one step too few", w.asks(5), 0);
    }

    /** "A place with no part: a FAULT (no step)." */
    private static void aPlaceWithNoPart() {
        SystemParts x = new SystemParts();
        x.part(Kinds.TIMER, 10, 0, 0, 7);
        x.write(12, 1);
        int time = x.count(0);
        for (int place : new int[] {0, 9, 14, 65535}) {
            Check.fault("read(" + place + ")", () -> x.read(place));
            Check.fault("write(" + place + ")", () -> x.write(place, 1));
        }
        Check.due("no step", x.count(0), time);
        Check.due("faults", x.count(4), 8);
        Check.due("reads", x.count(2), 0);
        Check.due("writes", x.count(3), 1);
        Check.due("no part went on", x.read(10), 8);
    }

    /** Promise 5: "of a FIXED its steps are done". */
    private static void aFixedHasItsSteps() {
        for (int waits : new int[] {0, 7}) {
            SystemParts x = new SystemParts();
            x.part(Kinds.FIXED, 0, 1, 0, waits);
            x.part(Kinds.TIMER, 10, 0, 5, 0);
            x.write(11, 1 + waits);
            x.write(12, 5);
            Check.fault("a write", () -> x.write(0, 1));
            Check.due("its steps", x.count(0), 2 + 1 + waits);
            Check.due("the timer fired in them", x.asks(5), 3);
            SystemParts y = new SystemParts();
            y.part(Kinds.FIXED, 0, 1, 0, waits);
            y.part(Kinds.TIMER, 10, 0, 5, 0);
            y.write(11, 2 + waits);
            y.write(12, 5);
            Check.fault("a write", () -> y.write(0, 1));
            Check.due("not one step more", y.asks(5), 0);
        }
    }

    /** Promise 5: "how many steps that took": with a reset among them too. */
    private static void howManyStepsAWriteTook() {
        SystemParts x = new SystemParts();
        x.part(Kinds.TIMER, 0, 0, 0, 0);
        x.part(Kinds.STORE, 10, 1, 0, 7);
        Check.due("least", x.write(1, 3), 1);
        Check.due("most", x.write(10, 1), 8);
        x.write(2, 9);
        Check.due("with a reset among them", x.write(10, 2), 8);
        Check.due("the cause", x.count(5), 2);
        Check.due("it is written behind the reset", x.read(10), 2);
    }

    /** A write behind the reset of its own steps goes to a part that is as at first. */
    private static void accessesThatAreReset() {
        for (int in : new int[] {1, 8}) {
            SystemParts x = new SystemParts();
            x.part(Kinds.TIMER, 0, 0, 0, 0);
            x.part(Kinds.SERIAL, 10, 0, 5, 7);
            x.receive(1, 44);
            x.write(1, in);
            x.write(2, 9);
            Check.due("what came in is gone", x.read(10), 0);
            Check.due("the read counts", x.count(2), 1);
            x.write(1, in);
            x.write(2, 9);
            x.write(12, 2);
            Check.due("the mode is written behind it", x.asks(5), 3);
            Check.due("the write counts", x.count(3), 1);
        }
    }

    /** A fault is neither a read nor a write that was done: no line follows behind it. */
    private static void linesBehindAFault() {
        SystemParts x = new SystemParts();
        x.part(Kinds.SERIAL, 0, 0, 5, 0);
        x.write(2, 1);
        x.receive(0, 1);
        Check.fault("a read", () -> x.read(100));
        Check.fault("a write", () -> x.write(100, 1));
        Check.due("no step, so no lines", x.asks(5), 0);
        x.step(1);
        Check.due("behind a step", x.asks(5), 3);
    }

    /** "An object is used for at most 512 calls": the 512th is answered like the others. */
    private static void theLastCallOfAnObject() {
        SystemParts x = new SystemParts();
        x.part(Kinds.COUNTS, 0, 0, 0, 7);
        for (int i = 0; i < 510; i++) {
            x.step(1000);
        }
        Check.due("the 512th call", x.read(0), 510008);
    }
}

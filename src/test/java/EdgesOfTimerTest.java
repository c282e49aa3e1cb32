/** The boundary cases of a TIMER (Terms). */
final class EdgesOfTimerTest {
    private static final int BIG = Integer.MAX_VALUE;
    private static final int SMALL = Integer.MIN_VALUE;
    private static final int COUNT = 0;
    private static final int LIMIT = 1;
    private static final int MODE = 2;
    private static final int FIRED = 3;
    private static final int LINE = 6;

    public static void main(String[] args) {
        countAndLimitAreWhole();
        modeHasFourBits();
        aWriteMakesFiredNought();
        eachStepInWhichItGoes();
        theStepsOfTheWritesThemselves();
        firesWhenTheCountIsTheLimit();
        theCountIsNoughtIfItBeginsAnew();
        elseItGoesNoMore();
        aLimitThatIsPassed();
        aLimitOfNought();
        theCountWrapsRound();
        firedStays();
        modeEightResets();
        modeEightAlone();
        asksAsLongAs();
        asksFromTheStepOn();
        timersOfTheSameStep();
        Check.end();
    }

    private static SystemParts timer(int count, int limit, int mode) {
        SystemParts x = new SystemParts();
        x.part(Kinds.TIMER, 0, 0, LINE, 0);
        x.write(COUNT, count);
        x.write(LIMIT, limit);
        x.write(MODE, mode);
        return x;
    }

    /** Stops the timer behind one step more, so that reads count no further. */
    private static void freeze(SystemParts x) {
        x.write(MODE, 0);
    }

    /** "REGISTERS (32 bits)". */
    private static void countAndLimitAreWhole() {
        for (int v : new int[] {0, 1, -1, 15, 16, 255, 256, 65536, BIG, SMALL}) {
            SystemParts x = timer(v, v, 0);
            Check.due("COUNT", x.read(COUNT), v);
            Check.due("LIMIT", x.read(LIMIT), v);
            Check.due("FIRED", x.read(FIRED), 0);
        }
    }

    /** "2 its MODE (what is written, its lowest four bits)". */
    private static void modeHasFourBits() {
        for (int v : new int[] {0, 1, 2, 4, 8, 14, 15, 16, 17, 31, 32, -1, -2, -16, BIG, SMALL}) {
            SystemParts x = timer(0, 0, v);
            Check.due("MODE of " + v, x.read(MODE), v & 15);
        }
        SystemParts y = timer(0, 0, 16);
        y.step(5);
        Check.due("with 16 it goes not", y.read(COUNT), 0);
        SystemParts z = timer(0, 0, 17);
        z.step(5);
        Check.due("with 17 it goes", z.read(COUNT), 6);
    }

    /** "3 whether it FIRED (1; a write makes it 0)": whatever is written, fired or not. */
    private static void aWriteMakesFiredNought() {
        for (int v : new int[] {0, 1, 2, -1, BIG, SMALL}) {
            SystemParts x = timer(0, 1, 1);
            x.step(1);
            Check.due("FIRED", x.read(FIRED), 1);
            x.write(FIRED, v);
            Check.due("FIRED behind a write of " + v, x.read(FIRED), 0);
            x.write(FIRED, v);
            Check.due("FIRED behind another one", x.read(FIRED), 0);
        }
    }

    /** "In each step in which it goes the count is one more": by mode 1, whatever the others say. */
    private static void eachStepInWhichItGoes() {
        for (int mode = 0; mode <= 15; mode++) {
            SystemParts x = timer(0, 100, mode);
            x.step(9);
            Check.due("COUNT by mode " + mode, x.read(COUNT), (mode & 1) == 1 ? 10 : 0);
        }
    }

    private static void theStepsOfTheWritesThemselves() {
        SystemParts x = new SystemParts();
        x.part(Kinds.TIMER, 0, 0, LINE, 7);
        x.write(LIMIT, 100);
        x.write(MODE, 1);
        x.write(MODE, 0);
        Check.due("the steps of the write that stops it, not of the one that lets it go", x.read(COUNT), 8);
        x.write(MODE, 1);
        x.write(COUNT, 50);
        freeze(x);
        Check.due("it goes on from what is written", x.read(COUNT), 58);
    }

    /** "when it is the limit then, it fires: register 3 is 1": in that step, not one ahead of it. */
    private static void firesWhenTheCountIsTheLimit() {
        for (int limit : new int[] {3, 4, 100, 1000}) {
            for (int mode : new int[] {1, 3}) {
                SystemParts x = timer(0, limit, mode);
                x.step(limit - 2);
                freeze(x);
                Check.due("COUNT, one ahead", x.read(COUNT), limit - 1);
                Check.due("not yet", x.read(FIRED), 0);
                SystemParts y = timer(0, limit, mode);
                y.step(limit - 1);
                freeze(y);
                Check.due("it fired", y.read(FIRED), 1);
            }
        }
        SystemParts z = timer(0, 1, 1);
        freeze(z);
        Check.due("a limit of 1: in its first step", z.read(FIRED), 1);
        SystemParts y = timer(0, 2, 1);
        freeze(y);
        Check.due("a limit of 2: not in its first step", y.read(FIRED), 0);
        SystemParts w = timer(-5, -3, 5);
        w.step(1);
        Check.due("numbers below 0, one ahead", w.asks(LINE), 0);
        freeze(w);
        Check.due("numbers below 0", w.read(FIRED), 1);
    }

    /** "the count is 0 if it begins anew". */
    private static void theCountIsNoughtIfItBeginsAnew() {
        SystemParts x = timer(0, 3, 3);
        x.step(2);
        freeze(x);
        Check.due("the count of the step in which it fires", x.read(COUNT), 0);
        SystemParts y = timer(0, 3, 3);
        y.step(3);
        freeze(y);
        Check.due("the count of the step behind", y.read(COUNT), 1);
        SystemParts z = timer(0, 3, 3);
        z.step(3);
        z.write(FIRED, 0);
        z.write(MODE, 3);
        Check.due("it fires each third step", z.read(FIRED), 1);
        Check.due("it goes on", z.read(MODE), 3);
        SystemParts w = timer(0, 1, 3);
        w.step(1);
        w.write(FIRED, 0);
        Check.due("with a limit of 1 in each step", w.read(FIRED), 1);
        Check.due("and the count is 0 always", w.read(COUNT), 0);
        SystemParts v = timer(-1, 0, 3);
        v.step(2);
        Check.due("from a limit of 0 it goes on", v.read(COUNT), 2);
    }

    /** "else it goes no more": the count stays the limit, and mode 1 is gone. */
    private static void elseItGoesNoMore() {
        SystemParts x = timer(0, 3, 1);
        x.step(3);
        Check.due("the count is the limit", x.read(COUNT), 3);
        x.step(1000);
        Check.due("and stays so", x.read(COUNT), 3);
        Check.due("it goes no more", x.read(MODE), 0);
        SystemParts y = timer(0, 3, 5);
        y.step(5);
        Check.due("the other bits of its mode stay", y.read(MODE), 4);
        y.write(MODE, 1);
        y.step(1);
        Check.due("it can be told to go again", y.read(COUNT), 5);
    }

    /** The limit is met by a count that became it; one that was it, or is beyond it, fires nothing. */
    private static void aLimitThatIsPassed() {
        SystemParts x = timer(7, 7, 1);
        x.step(10);
        freeze(x);
        Check.due("a count that was the limit", x.read(FIRED), 0);
        Check.due("it goes on", x.read(COUNT), 18);
        SystemParts y = timer(8, 7, 1);
        y.step(10);
        freeze(y);
        Check.due("a count beyond the limit", y.read(FIRED), 0);
        SystemParts z = timer(0, 100, 1);
        z.step(9);
        z.write(LIMIT, 10);
        freeze(z);
        Check.due("a limit that is told when the count is it", z.read(FIRED), 0);
        SystemParts w = timer(0, 100, 1);
        w.step(9);
        w.write(LIMIT, 11);
        freeze(w);
        Check.due("a limit that is told one ahead", w.read(FIRED), 1);
        SystemParts v = timer(0, 100, 1);
        v.write(COUNT, 100);
        freeze(v);
        Check.due("a count that is written to be the limit", v.read(FIRED), 0);
    }

    /** A limit of 0, as at first: a count from 0 on is not 0 in the next step. */
    private static void aLimitOfNought() {
        SystemParts x = timer(0, 0, 15);
        Check.due("no reset", x.step(1000), false);
        freeze(x);
        Check.due("not fired", x.read(FIRED), 0);
        SystemParts y = timer(-2, 0, 1);
        y.step(1);
        freeze(y);
        Check.due("the count comes to 0", y.read(FIRED), 1);
        Check.due("and stays there", y.read(COUNT), 0);
        SystemParts z = timer(-3, 0, 1);
        z.step(1);
        freeze(z);
        Check.due("one ahead of it", z.read(FIRED), 0);
        Check.due("one ahead of it", z.read(COUNT), -1);
    }

    /** 32 bits: behind the greatest number comes the least. */
    private static void theCountWrapsRound() {
        SystemParts x = timer(BIG - 1, 0, 1);
        freeze(x);
        Check.due("ahead of the wrap-around", x.read(COUNT), BIG);
        SystemParts y = timer(BIG - 1, 0, 1);
        y.step(1);
        freeze(y);
        Check.due("behind it", y.read(COUNT), SMALL);
        SystemParts z = timer(BIG - 1, BIG, 3);
        freeze(z);
        Check.due("the greatest limit", z.read(FIRED), 1);
        Check.due("it begins anew", z.read(COUNT), 0);
        SystemParts w = timer(BIG, SMALL, 1);
        freeze(w);
        Check.due("the least limit", w.read(FIRED), 1);
    }

    private static void firedStays() {
        SystemParts x = timer(0, 2, 3);
        x.step(2);
        Check.due("fired once", x.read(FIRED), 1);
        x.step(20);
        Check.due("fired more than once", x.read(FIRED), 1);
        freeze(x);
        x.write(LIMIT, 5);
        x.write(COUNT, 0);
        Check.due("other registers do not end it", x.read(FIRED), 1);
    }

    /** "with mode 8 all is RESET then, with cause 2". */
    private static void modeEightResets() {
        for (int mode : new int[] {9, 11, 13, 15}) {
            SystemParts x = timer(0, 5, mode);
            Check.due("one step ahead", x.step(4), false);
            Check.due("no cause yet", x.count(5), 0);
            Check.due("the writes are counted", x.count(3), 3);
            Check.due("then", x.step(1), true);
            Check.due("the cause", x.count(5), 2);
            Check.due("the writes are as at first", x.count(3), 0);
            Check.due("no line is up", x.count(6), 0);
            Check.due("none is pending", x.count(7), 0);
            for (int i = 0; i < 4; i++) {
                Check.due("its own registers too", x.read(i), 0);
            }
            Check.due("once", x.step(50), false);
        }
    }

    private static void modeEightAlone() {
        SystemParts x = timer(4, 5, 8);
        Check.due("it does not go", x.step(10), false);
        SystemParts y = timer(4, 5, 1);
        y.step(1);
        y.write(MODE, 8);
        Check.due("it has fired already", y.step(10), false);
        Check.due("no reset", y.count(5), 0);
        SystemParts z = timer(4, 5, 7);
        Check.due("without mode 8", z.step(10), false);
    }

    /** "It asks as long as mode 4 is set and it has fired." */
    private static void asksAsLongAs() {
        for (int mode = 0; mode <= 15; mode++) {
            SystemParts x = timer(100, 5, 0);
            x.write(MODE, mode);
            Check.due("not fired, mode " + mode, x.asks(LINE), 0);
            SystemParts y = timer(0, 1, 1);
            y.step(1);
            y.write(MODE, mode);
            Check.due("fired, mode " + mode, y.asks(LINE), (mode & 4) != 0 ? 3 : 0);
            y.write(FIRED, 0);
            Check.due("fired no more, mode " + mode, y.asks(LINE), 0);
        }
    }

    private static void asksFromTheStepOn() {
        SystemParts x = timer(0, 4, 5);
        x.step(3);
        Check.due("one step ahead", x.asks(LINE), 0);
        x.step(1);
        Check.due("behind the step in which it fires", x.asks(LINE), 3);
        x.write(MODE, 0);
        Check.due("mode 4 is taken away", x.asks(LINE), 0);
        x.write(MODE, 4);
        Check.due("mode 4 is set again", x.asks(LINE), 3);
    }

    private static void timersOfTheSameStep() {
        SystemParts x = new SystemParts();
        x.part(Kinds.TIMER, 0, 0, 1, 0);
        x.part(Kinds.TIMER, 10, 0, 2, 0);
        x.write(1, 5);
        x.write(11, 4);
        x.write(2, 5);
        x.write(12, 5);
        x.step(3);
        Check.due("neither", x.count(6), 0);
        x.step(1);
        Check.due("both in one step", x.count(6), 6);
    }
}

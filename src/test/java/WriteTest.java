/** Promise 5: write. */
final class WriteTest {
    public static void main(String[] args) {
        howManySteps();
        stepsComeFirst();
        noSuchPlace();
        faultsOfNoPart();
        faultsOfFixed();
        lostWritesAreDone();
        linesFollow();
        Check.end();
    }

    private static void howManySteps() {
        for (int waits = 0; waits <= 7; waits++) {
            SystemParts x = new SystemParts();
            x.part(Kinds.STORE, 0, 3, 0, waits);
            Check.due("steps of a write", x.write(1, -3), 1 + waits);
            Check.due("the time", x.count(0), 1 + waits);
            Check.due("what was written", x.read(1), -3);
            Check.due("the place ahead", x.read(0), 0);
            Check.due("the place behind", x.read(2), 0);
        }
    }

    private static void stepsComeFirst() {
        SystemParts x = new SystemParts();
        x.part(Kinds.TIMER, 0, 0, 0, 4);
        x.write(2, 1);
        x.write(0, 100);
        Check.due("the count goes on from what was written", x.read(0), 105);
        x.write(2, 0);
        Check.due("the steps ahead of the stop were counted", x.read(0), 110);
    }

    private static void noSuchPlace() {
        SystemParts x = new SystemParts();
        x.part(Kinds.STORE, 0, 1, 0, 0);
        for (int bad : new int[] {-1, 65536, Integer.MAX_VALUE, Integer.MIN_VALUE}) {
            Check.outOfBounds("write(" + bad + ")", () -> x.write(bad, 1));
        }
        Check.due("no fault", x.count(4), 0);
        Check.due("no step", x.count(0), 0);
    }

    private static void faultsOfNoPart() {
        SystemParts x = new SystemParts();
        x.part(Kinds.STORE, 5, 1, 0, 0);
        Check.fault("write(4)", () -> x.write(4, 1));
        Check.fault("write(6)", () -> x.write(6, 1));
        Check.due("faults", x.count(4), 2);
        Check.due("no write", x.count(3), 0);
        Check.due("no step", x.count(0), 0);
    }

    private static void faultsOfFixed() {
        SystemParts x = new SystemParts();
        x.part(Kinds.FIXED, 0, 2, 0, 3);
        x.part(Kinds.COUNTS, 10, 0, 0, 0);
        x.load(1, 7);
        Check.fault("write to a FIXED", () -> x.write(1, 9));
        Check.due("its steps are done", x.count(0), 4);
        Check.due("a fault", x.count(4), 1);
        Check.due("no write", x.count(3), 0);
        Check.due("the number stays", x.read(1), 7);
        Check.due("COUNTS of writes", x.read(12), 0);
        Check.due("COUNTS of faults", x.read(13), 1);
        x.part(Kinds.TIMER, 20, 0, 0, 0);
        x.write(21, 2);
        x.write(22, 9);
        Check.fault("write to a FIXED with a reset in its steps", () -> x.write(0, 9));
        Check.due("the reset", x.count(5), 2);
        Check.due("the fault comes behind it", x.count(4), 1);
        Check.due("COUNTS of faults", x.read(13), 1);
    }

    private static void lostWritesAreDone() {
        SystemParts x = new SystemParts();
        x.part(Kinds.SERIAL, 0, 0, 0, 0);
        x.part(Kinds.ROWS, 10, 0, 0, 0);
        Check.due("it is sent", x.write(0, 1), 1);
        Check.due("it is lost", x.write(0, 2), 1);
        Check.due("it does nothing", x.write(1, 2), 1);
        Check.due("it begins", x.write(11, 1), 1);
        Check.due("it is lost", x.write(14, 5), 1);
        Check.due("all were writes", x.count(3), 5);
        Check.due("and no faults", x.count(4), 0);
    }

    private static void linesFollow() {
        SystemParts x = new SystemParts();
        x.part(Kinds.SERIAL, 0, 0, 4, 0);
        Check.due("down at first", x.asks(4), 0);
        x.write(2, 2);
        Check.due("up behind the write of the mode", x.asks(4), 3);
        x.write(0, 1);
        Check.due("down behind the write that sends", x.asks(4), 0);
    }
}

/** Promise 4: read. */
final class ReadTest {
    public static void main(String[] args) {
        stepsComeFirst();
        noSuchPlace();
        faultsAreCounted();
        readAfterResetInItsSteps();
        linesFollowAReadOnly();
        Check.end();
    }

    private static void stepsComeFirst() {
        for (int waits = 0; waits <= 7; waits++) {
            SystemParts x = new SystemParts();
            x.part(Kinds.TIMER, 0, 0, 0, waits);
            x.part(Kinds.STORE, 10, 1, 0, 0);
            x.write(2, 1);
            int before = x.count(0);
            Check.due("a going timer tells of the steps of its read", x.read(0), 1 + waits);
            Check.due("the time", x.count(0), before + 1 + waits);
            Check.due("the next read", x.read(0), 2 * (1 + waits));
        }
    }

    private static void noSuchPlace() {
        SystemParts x = new SystemParts();
        x.part(Kinds.STORE, 0, 1, 0, 0);
        for (int bad : new int[] {-1, 65536, Integer.MAX_VALUE, Integer.MIN_VALUE}) {
            Check.outOfBounds("read(" + bad + ")", () -> x.read(bad));
        }
        Check.due("no fault", x.count(4), 0);
        Check.due("no read", x.count(2), 0);
        Check.due("no step", x.count(0), 0);
    }

    private static void faultsAreCounted() {
        SystemParts x = new SystemParts();
        x.part(Kinds.STORE, 5, 1, 0, 0);
        x.part(Kinds.COUNTS, 10, 0, 0, 0);
        Check.fault("read(4)", () -> x.read(4));
        Check.fault("read(6)", () -> x.read(6));
        Check.fault("read(65535)", () -> x.read(65535));
        Check.due("faults", x.count(4), 3);
        Check.due("no reads", x.count(2), 0);
        Check.due("no step", x.count(0), 0);
        Check.due("COUNTS of faults", x.read(13), 3);
        Check.due("a read of a part is no fault", x.read(5), 0);
        Check.due("reads", x.count(2), 2);
    }

    private static void readAfterResetInItsSteps() {
        SystemParts x = new SystemParts();
        x.part(Kinds.TIMER, 0, 0, 0, 0);
        x.part(Kinds.STORE, 10, 1, 0, 3);
        x.load(10, 42);
        x.write(1, 2);
        x.write(2, 9);
        Check.due("the read is done behind the reset", x.read(10), 42);
        Check.due("there was a reset", x.count(5), 2);
        Check.due("all its steps were done", x.count(0), 6);
        Check.due("the read counts behind the reset", x.count(2), 1);
        Check.due("the writes were ahead of it", x.count(3), 0);
    }

    private static void linesFollowAReadOnly() {
        SystemParts x = new SystemParts();
        x.part(Kinds.SERIAL, 0, 0, 4, 0);
        x.write(2, 1);
        x.receive(0, 8);
        Check.due("not yet up", x.asks(4), 0);
        Check.fault("a fault is no read", () -> x.read(100));
        Check.due("not up behind a fault without a step", x.asks(4), 0);
        Check.due("the read that takes it", x.read(0), 8);
        Check.due("down behind the read", x.asks(4), 0);
        x.receive(0, 9);
        x.line(4, Kinds.WAY, Kinds.RISE);
        Check.due("the read that takes it", x.read(0), 9);
        Check.due("it was up behind the step, ahead of the read", x.asks(4), 2);
    }
}

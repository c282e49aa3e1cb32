/** Promise 6: step, and the order of the parts within one. */
final class StepTest {
    public static void main(String[] args) {
        howMany();
        whetherAReset();
        orderOfParts(true);
        orderOfParts(false);
        aResetEndsOneStepAlone();
        Check.end();
    }

    private static void howMany() {
        SystemParts x = new SystemParts();
        for (int bad : new int[] {0, -1, 1001, Integer.MAX_VALUE, Integer.MIN_VALUE}) {
            Check.refusedArgument("step(" + bad + ")", () -> x.step(bad) ? 1 : 0);
        }
        Check.due("no time", x.count(0), 0);
        Check.due("step(1)", x.step(1), false);
        Check.due("time", x.count(0), 1);
        Check.due("step(1000)", x.step(1000), false);
        Check.due("time", x.count(0), 1001);
    }

    private static void whetherAReset() {
        SystemParts x = new SystemParts();
        x.part(Kinds.TIMER, 0, 0, 0, 0);
        x.write(1, 5);
        x.write(2, 9);
        Check.due("step(4)", x.step(4), false);
        Check.due("step(1)", x.step(1), true);
        Check.due("step(1)", x.step(1), false);
        x.write(1, 2);
        x.write(2, 9);
        Check.due("a reset amidst", x.step(10), true);
        Check.due("all steps are done", x.count(0), 20);
        x.reset();
        Check.due("a reset by reset() is not among them", x.step(3), false);
    }

    /** Rows that end their work in the step of a reset: only those ahead of the timer do. */
    private static void orderOfParts(boolean rowsFirst) {
        SystemParts x = new SystemParts();
        x.part(rowsFirst ? Kinds.ROWS : Kinds.TIMER, rowsFirst ? 0 : 20, 0, 0, 0);
        x.part(rowsFirst ? Kinds.TIMER : Kinds.ROWS, rowsFirst ? 20 : 0, 0, 0, 0);
        x.write(3, 55);
        x.write(21, 11);
        x.write(22, 9);
        x.write(1, 2);
        Check.due("both in one step", x.step(10), true);
        Check.due("nothing is done behind a reset", x.read(2), 0);
        x.write(1, 1);
        x.step(10);
        Check.due(rowsFirst ? "rows ahead of the timer" : "rows behind the timer", x.read(3), rowsFirst ? 55 : 0);
    }

    private static void aResetEndsOneStepAlone() {
        SystemParts x = new SystemParts();
        x.part(Kinds.TIMER, 0, 0, 0, 0);
        x.part(Kinds.COUNTS, 10, 0, 0, 0);
        x.write(1, 3);
        x.write(2, 9);
        Check.due("step(8)", x.step(8), true);
        Check.due("steps since the reset and the read's own", x.read(10), 6);
    }
}

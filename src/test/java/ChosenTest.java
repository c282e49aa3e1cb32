/** Promise 11: chosen. */
final class ChosenTest {
    public static void main(String[] args) {
        byRankThenLowest();
        hiddenLinesAreNotChosen();
        pendingAloneIsEnough();
        Check.end();
    }

    private static void byRankThenLowest() {
        SystemParts x = Kinds.withTimers(5);
        Check.due("none", x.chosen(), SystemParts.NONE);
        Kinds.raise(x, 4);
        Check.due("the only one", x.chosen(), 4);
        Kinds.raise(x, 2);
        Check.due("of several the lowest", x.chosen(), 2);
        x.line(4, Kinds.RANK, 1);
        Check.due("the greatest rank", x.chosen(), 4);
        x.line(2, Kinds.RANK, 1);
        Check.due("the same rank: the lowest", x.chosen(), 2);
        x.line(0, Kinds.RANK, 15);
        Check.due("a line that is not pending is not chosen", x.chosen(), 2);
        Kinds.raise(x, 0);
        Check.due("it is pending now", x.chosen(), 0);
        Check.due("chosen() takes nothing", x.chosen(), 0);
        Kinds.lower(x, 0);
        Check.due("it is down again", x.chosen(), 2);
    }

    private static void hiddenLinesAreNotChosen() {
        SystemParts x = Kinds.withTimers(3);
        x.line(1, Kinds.RANK, 9);
        Kinds.raise(x, 1);
        Kinds.raise(x, 2);
        Check.due("the greatest rank", x.chosen(), 1);
        x.line(1, Kinds.HIDDEN, 1);
        Check.due("hidden", x.chosen(), 2);
        x.line(2, Kinds.HIDDEN, 1);
        Check.due("both hidden", x.chosen(), SystemParts.NONE);
        x.line(1, Kinds.HIDDEN, 0);
        Check.due("hidden no more", x.chosen(), 1);
    }

    private static void pendingAloneIsEnough() {
        SystemParts x = Kinds.withTimers(3);
        x.line(2, Kinds.WAY, Kinds.RISE);
        Kinds.raise(x, 2);
        Kinds.lower(x, 2);
        Check.due("down, but pending", x.chosen(), 2);
        SystemParts y = new SystemParts();
        y.part(Kinds.ROWS, 0, 0, 15, 0);
        y.write(1, 1);
        y.step(10);
        Check.due("the last line", y.chosen(), 15);
    }
}

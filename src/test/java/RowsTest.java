/** The ROWS: its window, its work of ten steps and its asking. */
final class RowsTest {
    public static void main(String[] args) {
        registers();
        everyRowIsItsOwn();
        workTakesTenSteps();
        whileItWorks();
        otherNumbersBeginNothing();
        doneStaysUntilWritten();
        aResetEndsTheWork();
        Check.end();
    }

    private static SystemParts rows() {
        SystemParts x = new SystemParts();
        x.part(Kinds.ROWS, 0, 0, 2, 0);
        return x;
    }

    private static void work(SystemParts x, int row, int how) {
        x.write(0, row);
        x.write(1, how);
        x.step(10);
    }

    private static void registers() {
        SystemParts x = rows();
        x.write(0, -2);
        Check.due("the row has three bits", x.read(0), 6);
        x.write(0, 8);
        Check.due("the row has three bits", x.read(0), 0);
        x.write(2, 1);
        Check.due("a write makes DONE 0", x.read(2), 0);
        for (int i = 3; i <= 10; i++) {
            x.write(i, -i);
        }
        for (int i = 3; i <= 10; i++) {
            Check.due("the window", x.read(i), -i);
        }
    }

    private static void everyRowIsItsOwn() {
        SystemParts x = rows();
        for (int row = 0; row < 8; row++) {
            for (int i = 0; i < 8; i++) {
                x.write(3 + i, 100 * row + i + 1);
            }
            work(x, row, 2);
        }
        for (int row = 7; row >= 0; row--) {
            work(x, row, 1);
            for (int i = 0; i < 8; i++) {
                Check.due("row " + row, x.read(3 + i), 100 * row + i + 1);
            }
        }
    }

    private static void workTakesTenSteps() {
        SystemParts x = rows();
        x.write(3, 9);
        x.write(1, 2);
        x.step(8);
        Check.due("at work", x.read(1), 2);
        Check.due("asks not yet", x.asks(2), 0);
        x.step(1);
        Check.due("it asks behind the tenth step", x.asks(2), 3);
        Check.due("at work no more", x.read(1), 0);
        Check.due("done", x.read(2), 1);
        x.write(2, 5);
        Check.due("asks no more", x.asks(2), 0);
        x.write(3, 0);
        x.write(1, 1);
        x.step(8);
        Check.due("not yet there", x.read(3), 0);
        Check.due("there behind the tenth step", x.read(3), 9);
    }

    private static void whileItWorks() {
        SystemParts x = rows();
        x.write(3, 1);
        x.write(1, 2);
        x.write(3, 2);
        Check.due("a write of the window is lost", x.read(3), 1);
        x.write(1, 1);
        Check.due("it works at what it worked at", x.read(1), 2);
        x.write(0, 5);
        Check.due("the row can be told", x.read(0), 5);
        x.write(1, 0);
        x.write(2, 0);
        x.step(1);
        Check.due("not yet done", x.asks(2), 0);
        x.step(1);
        Check.due("done in its time", x.asks(2), 3);
        x.write(3, 7);
        Check.due("the window can be written again", x.read(3), 7);
        work(x, 5, 1);
        Check.due("the other row is as it was", x.read(3), 0);
        work(x, 0, 1);
        Check.due("the row that there was when it began", x.read(3), 1);
    }

    private static void otherNumbersBeginNothing() {
        SystemParts x = rows();
        for (int v : new int[] {0, 3, 4, 5, 17, 257, -1, -2, Integer.MIN_VALUE, Integer.MAX_VALUE}) {
            x.write(1, v);
            Check.due("work " + v, x.read(1), 0);
        }
        x.step(20);
        Check.due("nothing is done", x.read(2), 0);
    }

    private static void doneStaysUntilWritten() {
        SystemParts x = rows();
        work(x, 0, 1);
        x.write(1, 1);
        Check.due("done stays while it works anew", x.read(2), 1);
        Check.due("and it asks on", x.asks(2), 3);
        x.write(2, 0);
        Check.due("until it is written", x.asks(2), 0);
        x.step(9);
        Check.due("done again", x.read(2), 1);
    }

    private static void aResetEndsTheWork() {
        SystemParts x = rows();
        x.write(3, 4);
        x.write(1, 2);
        x.step(9);
        x.reset();
        Check.due("it is not at work", x.read(1), 0);
        x.step(20);
        Check.due("it is not done", x.read(2), 0);
        work(x, 0, 1);
        Check.due("the row is as it was", x.read(3), 0);
        x.write(3, 5);
        work(x, 0, 2);
        x.write(3, 0);
        work(x, 0, 1);
        Check.due("it works as at first", x.read(3), 5);
    }
}

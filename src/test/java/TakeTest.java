/** Promise 12: take. */
final class TakeTest {
    public static void main(String[] args) {
        SystemParts x = Kinds.withTimers(4);
        Check.due("none", x.take(), SystemParts.NONE);
        x.line(1, Kinds.WAY, Kinds.RISE);
        x.line(2, Kinds.WAY, Kinds.CHANGE);
        x.line(3, Kinds.WAY, Kinds.RISE);
        x.line(2, Kinds.RANK, 3);
        x.line(3, Kinds.HIDDEN, 1);
        for (int line = 0; line < 4; line++) {
            Kinds.raise(x, line);
        }
        x.line(0, Kinds.HIDDEN, 1);
        Check.due("all are pending", x.count(7), 15);
        Check.due("the greatest rank", x.take(), 2);
        Check.due("it alone is not pending any more", x.count(7), 11);
        Check.due("the next", x.take(), 1);
        Check.due("hidden ones are not taken", x.take(), SystemParts.NONE);
        Check.due("the hidden ones are pending still", x.count(7), 9);
        x.line(0, Kinds.HIDDEN, 0);
        Check.due("a level", x.take(), 0);
        Check.due("is pending as long as it is up", x.take(), 0);
        Kinds.lower(x, 0);
        Check.due("down", x.take(), SystemParts.NONE);
        x.line(3, Kinds.HIDDEN, 0);
        Check.due("hidden no more", x.take(), 3);
        Check.due("all up but line 0", x.count(6), 14);
        Kinds.lower(x, 3);
        Kinds.raise(x, 3);
        Check.due("a new rise", x.take(), 3);
        Check.end();
    }
}

/** Promise 1: a new object. */
final class NewObjectTest {
    public static void main(String[] args) {
        SystemParts x = new SystemParts();
        for (int what = 0; what <= 9; what++) {
            Check.due("count(" + what + ") at first", x.count(what), 0);
        }
        for (int line = 0; line < 16; line++) {
            Check.due("asks at first", x.asks(line), 0);
            for (int what = 0; what <= 2; what++) {
                Check.due("a line's settings at first", x.line(line, what, 0), 0);
            }
        }
        Check.due("NONE", SystemParts.NONE, -1);
        Check.due("chosen at first", x.chosen(), SystemParts.NONE);
        Check.due("take at first", x.take(), SystemParts.NONE);
        Check.due("reset at first", x.reset(), 0);
        Check.fault("read without parts", () -> x.read(0));
        Check.refusedArgument("load without parts", () -> x.load(0, 1));
        Check.refusedArgument("receive without parts", () -> x.receive(0, 1));
        Check.refusedArgument("sent without parts", () -> x.sent(0, 0));
        otherObjectsAreTheirOwn();
        Check.end();
    }

    private static void otherObjectsAreTheirOwn() {
        SystemParts a = new SystemParts();
        SystemParts b = new SystemParts();
        a.part(Kinds.STORE, 0, 4, 0, 0);
        a.line(3, Kinds.RANK, 9);
        a.step(5);
        Check.due("the other one's parts", b.count(1), 0);
        Check.due("the other one's time", b.count(0), 0);
        Check.due("the other one's rank", b.line(3, Kinds.RANK, 1), 0);
    }
}

/** Promise 8: sent. */
final class SentTest {
    public static void main(String[] args) {
        whichPart();
        theLatest32();
        sinceTheLastReset();
        Check.end();
    }

    private static void send(SystemParts x, int place, int v) {
        x.write(place, v);
        x.step(4);
    }

    private static void whichPart() {
        SystemParts x = new SystemParts();
        for (int kind = 0; kind <= 5; kind++) {
            x.part(kind, 100 * kind, 4, kind, 0);
        }
        for (int bad : new int[] {-1, 0, 1, 2, 4, 5, 6, 11, 12, Integer.MAX_VALUE, Integer.MIN_VALUE}) {
            Check.refusedArgument("sent by part " + bad, () -> x.sent(bad, 0));
            Check.refusedArgument("sent by part " + bad + ", k wrong too", () -> x.sent(bad, -1));
        }
        Check.outOfBounds("none went out", () -> x.sent(3, 0));
        send(x, 300, 7);
        Check.due("the first", x.sent(3, 0), 7);
        for (int bad : new int[] {-1, 1, 32, Integer.MAX_VALUE, Integer.MIN_VALUE}) {
            Check.outOfBounds("k " + bad, () -> x.sent(3, bad));
        }
    }

    private static void theLatest32() {
        SystemParts x = new SystemParts();
        x.part(Kinds.SERIAL, 0, 0, 0, 0);
        for (int i = 0; i < 32; i++) {
            send(x, 0, i);
        }
        Check.due("the oldest of 32", x.sent(0, 0), 0);
        Check.due("the latest of 32", x.sent(0, 31), 31);
        Check.outOfBounds("k 32", () -> x.sent(0, 32));
        for (int i = 32; i < 70; i++) {
            send(x, 0, i);
        }
        for (int k = 0; k < 32; k++) {
            Check.due("of the latest 32", x.sent(0, k), 38 + k);
        }
        Check.outOfBounds("k 32", () -> x.sent(0, 32));
        Check.due("all that went out", x.count(9), 70);
    }

    private static void sinceTheLastReset() {
        SystemParts x = new SystemParts();
        x.part(Kinds.SERIAL, 0, 0, 0, 0);
        send(x, 0, 9);
        x.write(0, 8);
        x.reset();
        Check.outOfBounds("none since the reset", () -> x.sent(0, 0));
        x.step(10);
        Check.outOfBounds("what was being sent is gone", () -> x.sent(0, 0));
        send(x, 0, 6);
        Check.due("the first since the reset", x.sent(0, 0), 6);
        Check.due("sent since the reset", x.count(9), 1);
    }
}

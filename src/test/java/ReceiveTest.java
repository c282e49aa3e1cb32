/** Promise 7: receive. */
final class ReceiveTest {
    public static void main(String[] args) {
        SystemParts x = new SystemParts();
        for (int kind = 0; kind <= 5; kind++) {
            x.part(kind, 100 * kind, 4, kind, 0);
        }
        x.part(Kinds.SERIAL, 1000, 0, 0, 0);
        for (int bad : new int[] {-1, 0, 1, 2, 4, 5, 7, 11, 12, Integer.MAX_VALUE, Integer.MIN_VALUE}) {
            Check.refusedArgument("receive by part " + bad, () -> x.receive(bad, 1));
        }
        for (int i = 1; i <= 32; i++) {
            Check.due("how many are there", x.receive(3, 1000 * i), i);
        }
        Check.unsupported("a 33rd", () -> x.receive(3, 5));
        Check.due("32 are there", x.count(8), 32);
        Check.due("the other SERIAL has room", x.receive(6, Integer.MIN_VALUE), 1);
        Check.due("no step", x.count(0), 0);
        Check.due("first in, first out", x.read(300), 1000);
        Check.due("there is room again", x.receive(3, -1), 32);
        for (int i = 2; i <= 32; i++) {
            Check.due("in the order in which they came", x.read(300), 1000 * i);
        }
        Check.due("the last one, whole", x.read(300), -1);
        Check.due("no more", x.read(300), 0);
        Check.due("the other SERIAL's number, whole", x.read(1000), Integer.MIN_VALUE);
        Check.due("how many are there", x.receive(3, 7), 1);
        x.reset();
        Check.due("gone by a reset", x.read(300), 0);
        Check.due("how many are there", x.receive(3, 8), 1);
        Check.due("the new one", x.read(300), 8);
        lineFollowsLater();
        Check.end();
    }

    private static void lineFollowsLater() {
        SystemParts x = new SystemParts();
        x.part(Kinds.SERIAL, 0, 0, 1, 0);
        x.write(2, 1);
        x.receive(0, 3);
        Check.due("one is there to be read", x.count(8), 1);
        Check.due("a receive alone raises no line", x.asks(1), 0);
        x.step(1);
        Check.due("the step behind it does", x.asks(1), 3);
    }
}

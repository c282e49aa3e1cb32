/** The SERIAL: its registers, its sending and its asking. */
final class SerialTest {
    public static void main(String[] args) {
        registers();
        sendingTakesFourSteps();
        aSecondNumberIsLost();
        asksByMode();
        Check.end();
    }

    private static SystemParts serial() {
        SystemParts x = new SystemParts();
        x.part(Kinds.SERIAL, 0, 0, 9, 0);
        return x;
    }

    private static void registers() {
        SystemParts x = serial();
        Check.due("none came", x.read(0), 0);
        Check.due("none is being sent", x.read(1), 2);
        Check.due("mode", x.read(2), 0);
        x.write(1, 1);
        Check.due("a write of register 1 does nothing", x.read(1), 2);
        x.write(2, -1);
        Check.due("the mode has two bits", x.read(2), 3);
        x.write(2, 4);
        Check.due("the mode has two bits", x.read(2), 0);
        x.receive(0, 5);
        Check.due("one is there", x.read(1), 3);
        x.write(0, 1);
        Check.due("one is there and one is being sent", x.read(1), 1);
        Check.due("a read of register 0 takes it", x.read(0), 5);
        Check.due("none is there", x.read(1), 0);
    }

    private static void sendingTakesFourSteps() {
        SystemParts x = serial();
        x.write(0, 0x1FF);
        x.step(3);
        Check.due("not yet out", x.count(9), 0);
        Check.outOfBounds("not yet out", () -> x.sent(0, 0));
        x.step(1);
        Check.due("out", x.count(9), 1);
        Check.due("its lowest eight bits", x.sent(0, 0), 255);
        Check.due("none is being sent", x.read(1), 2);
        x.write(0, -128);
        x.step(4);
        Check.due("its lowest eight bits", x.sent(0, 1), 128);
    }

    private static void aSecondNumberIsLost() {
        SystemParts x = serial();
        x.write(0, 1);
        x.write(0, 2);
        x.write(0, 3);
        x.write(0, 4);
        Check.due("none is out", x.count(9), 0);
        x.write(0, 5);
        Check.due("the first is out ahead of the last write", x.count(9), 1);
        x.step(20);
        Check.due("only two went out", x.count(9), 2);
        Check.due("the first", x.sent(0, 0), 1);
        Check.due("the last", x.sent(0, 1), 5);
        x.write(0, 0);
        x.step(4);
        Check.due("a 0 goes out too", x.count(9), 3);
        Check.due("the 0", x.sent(0, 2), 0);
    }

    private static void asksByMode() {
        SystemParts x = serial();
        x.receive(0, 1);
        x.step(1);
        Check.due("mode 0 never asks", x.asks(9), 0);
        x.write(2, 1);
        Check.due("mode 1 and one is there", x.asks(9), 3);
        x.read(0);
        Check.due("mode 1 and none is there", x.asks(9), 0);
        x.write(2, 2);
        Check.due("mode 2 and none is being sent", x.asks(9), 3);
        x.write(0, 1);
        Check.due("mode 2 and one is being sent", x.asks(9), 0);
        x.receive(0, 1);
        x.step(3);
        Check.due("mode 2 and one is there", x.asks(9), 0);
        x.step(1);
        Check.due("behind the last step", x.asks(9), 3);
        x.write(0, 1);
        x.write(2, 3);
        Check.due("mode 3: one is there", x.asks(9), 3);
        x.read(0);
        Check.due("mode 3: neither", x.asks(9), 0);
        x.step(4);
        Check.due("mode 3: none is being sent", x.asks(9), 3);
    }
}

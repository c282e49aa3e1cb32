/** The boundary cases of a SERIAL (Terms, and promises 7 and 8). */
final class EdgesOfSerialTest {
    private static final int BIG = Integer.MAX_VALUE;
    private static final int SMALL = Integer.MIN_VALUE;
    private static final int LINE = 9;

    public static void main(String[] args) {
        noughtWithout();
        aReadTakesTheNext();
        numbersComeInWhole();
        fullAt32();
        theOrderGoesRound();
        sendsEightBits();
        sendingTakesFourSteps();
        elseItIsLost();
        theStepsOfTheNextWriteSend();
        registerOne();
        aWriteOfRegisterOne();
        modeHasTwoBits();
        asksWhen();
        receiveByWhichPart();
        receiveTakesNoStep();
        sentByWhichPart();
        sentWhenThereIsNone();
        theLatest32();
        linesOfTheirOwn();
        Check.end();
    }

    private static SystemParts serial() {
        return serial(0);
    }

    private static SystemParts serial(int waits) {
        SystemParts x = new SystemParts();
        x.part(Kinds.SERIAL, 0, 0, LINE, waits);
        return x;
    }

    private static void send(SystemParts x, int v) {
        x.write(0, v);
        x.step(4);
    }

    /** "a read takes the next number that came in by receive() (0 without)". */
    private static void noughtWithout() {
        SystemParts x = serial();
        Check.due("nothing came", x.read(0), 0);
        Check.due("nothing came", x.read(0), 0);
        Check.due("none is there", x.count(8), 0);
        Check.due("a read of nothing leaves no gap", x.receive(0, 5), 1);
        Check.due("the number", x.read(0), 5);
        Check.due("nothing more", x.read(0), 0);
        Check.due("none is there", x.count(8), 0);
        Check.due("a 0 that came is one too", x.receive(0, 0), 1);
        Check.due("it is there", x.read(1), 3);
        Check.due("it is 0", x.read(0), 0);
        Check.due("it is taken", x.read(1), 2);
    }

    private static void aReadTakesTheNext() {
        SystemParts x = serial();
        x.receive(0, 1);
        x.receive(0, 2);
        Check.due("registers 1 and 2 take nothing", x.read(1) + x.read(2), 3);
        Check.due("two are there", x.count(8), 2);
        Check.due("the first", x.read(0), 1);
        Check.due("one is there", x.count(8), 1);
        x.write(0, 99);
        Check.due("a write takes nothing", x.count(8), 1);
        Check.due("the second", x.read(0), 2);
    }

    private static void numbersComeInWhole() {
        SystemParts x = serial();
        for (int v : new int[] {0, 255, 256, -1, BIG, SMALL}) {
            x.receive(0, v);
            Check.due("what came in", x.read(0), v);
        }
    }

    /** Promise 7: "how many are there to be read"; "UnsupportedOperationException, when there are 32". */
    private static void fullAt32() {
        SystemParts x = serial();
        for (int i = 1; i <= 31; i++) {
            Check.due("how many", x.receive(0, i), i);
        }
        Check.due("the 32nd", x.receive(0, 32), 32);
        Check.unsupported("the 33rd", () -> x.receive(0, 33));
        Check.unsupported("the 33rd again", () -> x.receive(0, 33));
        Check.due("32 are there", x.count(8), 32);
        Check.due("the first is still the first", x.read(0), 1);
        Check.due("31 are there", x.count(8), 31);
        Check.due("one more has room", x.receive(0, 34), 32);
        Check.unsupported("and no other", () -> x.receive(0, 35));
        for (int i = 2; i <= 32; i++) {
            Check.due("in their order", x.read(0), i);
        }
        Check.due("the refused one never came", x.read(0), 34);
        Check.due("no more", x.read(1), 2);
        for (int i = 1; i <= 32; i++) {
            x.receive(0, i);
        }
        x.reset();
        Check.due("behind a reset there is room for 32 again", x.receive(0, 7), 1);
        Check.due("and the new one is the first", x.read(0), 7);
    }

    /** However many came ahead of them, numbers are read in the order in which they came. */
    private static void theOrderGoesRound() {
        SystemParts x = serial();
        for (int i = 0; i < 30; i++) {
            x.receive(0, i);
        }
        for (int i = 30; i < 130; i++) {
            Check.due("how many", x.receive(0, i), 31);
            Check.due("the next", x.read(0), i - 30);
        }
        for (int i = 100; i < 130; i++) {
            Check.due("the last ones", x.read(0), i);
        }
        Check.due("none", x.count(8), 0);
    }

    /** "a write sends the number's lowest eight bits". */
    private static void sendsEightBits() {
        SystemParts x = serial();
        int[] numbers = {0, 1, 127, 128, 255, 256, 257, 511, -1, -256, BIG, SMALL, 0x12345678};
        for (int i = 0; i < numbers.length; i++) {
            send(x, numbers[i]);
            Check.due("sent of " + numbers[i], x.sent(0, i), numbers[i] & 255);
        }
    }

    /** "Sending takes 4 steps; behind the last one it is out (sent())." */
    private static void sendingTakesFourSteps() {
        SystemParts x = serial();
        x.write(0, 65);
        for (int i = 1; i <= 3; i++) {
            x.step(1);
            Check.due("behind step " + i, x.count(9), 0);
            Check.outOfBounds("behind step " + i, () -> x.sent(0, 0));
        }
        x.step(1);
        Check.due("behind step 4", x.count(9), 1);
        Check.due("behind step 4", x.sent(0, 0), 65);
        x.step(100);
        Check.due("it goes out once", x.count(9), 1);
    }

    /** "if none is being sent (else it is lost)". */
    private static void elseItIsLost() {
        for (int stepsBetween = 0; stepsBetween <= 4; stepsBetween++) {
            SystemParts x = serial();
            x.write(0, 1);
            if (stepsBetween > 0) {
                x.step(stepsBetween);
            }
            x.write(0, 2);
            boolean lost = stepsBetween + 1 < 4;
            x.step(3);
            Check.due("not yet out, " + stepsBetween, x.count(9), 1);
            x.step(1);
            Check.due("how many went out, " + stepsBetween, x.count(9), lost ? 1 : 2);
            Check.due("the first one is as it was", x.sent(0, 0), 1);
            if (!lost) {
                Check.due("the second one", x.sent(0, 1), 2);
            }
        }
        SystemParts y = serial();
        y.write(0, 1);
        y.write(0, 2);
        y.step(2);
        Check.due("a lost one does not begin the four steps anew", y.count(9), 0);
        y.step(1);
        Check.due("a lost one does not begin the four steps anew", y.count(9), 1);
    }

    private static void theStepsOfTheNextWriteSend() {
        SystemParts x = serial(3);
        Check.due("four steps", x.write(0, 1), 4);
        Check.due("its own steps do not send it", x.count(9), 0);
        x.write(0, 2);
        Check.due("the first is out", x.count(9), 1);
        x.write(0, 3);
        Check.due("none is lost", x.count(9), 2);
        SystemParts y = serial(2);
        y.write(0, 1);
        y.write(0, 2);
        Check.due("three steps are too few", y.count(9), 0);
        y.step(5);
        Check.due("so the second is lost", y.count(9), 1);
    }

    /** "1: a read tells 1 when one is there to be read, 2 (more) when none is being sent". */
    private static void registerOne() {
        SystemParts x = serial();
        Check.due("none there, none being sent", x.read(1), 2);
        x.receive(0, 1);
        Check.due("one there, none being sent", x.read(1), 3);
        x.receive(0, 2);
        Check.due("two there, none being sent", x.read(1), 3);
        x.write(0, 1);
        Check.due("two there, one being sent, step 1", x.read(1), 1);
        Check.due("step 2", x.read(0), 1);
        Check.due("one there, step 3", x.read(1), 1);
        Check.due("one there, behind step 4", x.read(1), 3);
        x.write(0, 1);
        x.read(0);
        Check.due("none there, step 2", x.read(1), 0);
        Check.due("none there, step 3", x.read(1), 0);
        Check.due("none there, behind step 4", x.read(1), 2);
    }

    /** "(a write does nothing)". */
    private static void aWriteOfRegisterOne() {
        for (int v : new int[] {0, 1, 2, 3, -1, 255}) {
            SystemParts x = serial();
            x.write(1, v);
            Check.due("nothing there, none being sent", x.read(1), 2);
            x.receive(0, 9);
            x.write(0, 8);
            Check.due("it is a write all the same", x.write(1, v), 1);
            Check.due("one there, one being sent", x.read(1), 1);
            Check.due("the mode", x.read(2), 0);
            x.step(1);
            Check.due("it is out in its time", x.sent(0, 0), 8);
            Check.due("the number that came", x.read(0), 9);
        }
    }

    /** "2 its MODE (lowest two bits)". */
    private static void modeHasTwoBits() {
        for (int v : new int[] {0, 1, 2, 3, 4, 5, 6, 7, 8, -1, -4, BIG, SMALL}) {
            SystemParts x = serial();
            x.write(2, v);
            Check.due("MODE of " + v, x.read(2), v & 3);
        }
    }

    /** "It asks when mode 1 is set and one is there to be read, or mode 2 and none is being sent." */
    private static void asksWhen() {
        for (int mode = 0; mode <= 4; mode++) {
            for (int there = 0; there <= 1; there++) {
                for (int sending = 0; sending <= 1; sending++) {
                    SystemParts x = serial();
                    if (there == 1) {
                        x.receive(0, 5);
                    }
                    if (sending == 1) {
                        x.write(0, 5);
                    }
                    x.write(2, mode);
                    boolean asks = (mode & 1) != 0 && there == 1 || (mode & 2) != 0 && sending == 0;
                    Check.due("mode " + mode + ", there " + there + ", sending " + sending,
                            x.asks(LINE), asks ? 3 : 0);
                }
            }
        }
        SystemParts y = serial();
        y.write(2, 2);
        y.write(0, 1);
        y.step(3);
        Check.due("one step ahead of the last one", y.asks(LINE), 0);
        y.step(1);
        Check.due("behind the last one", y.asks(LINE), 3);
        SystemParts z = serial();
        z.write(2, 1);
        z.receive(0, 1);
        z.receive(0, 2);
        z.read(0);
        Check.due("one of two is there still", z.asks(LINE), 3);
        z.read(0);
        Check.due("none is there", z.asks(LINE), 0);
    }

    private static SystemParts oneOfEachKind() {
        SystemParts x = new SystemParts();
        for (int kind = 0; kind <= 5; kind++) {
            x.part(kind, 100 * kind, 1, kind, 0);
        }
        return x;
    }

    /** Promise 7: "IllegalArgumentException, when the part is no such one". */
    private static void receiveByWhichPart() {
        SystemParts x = oneOfEachKind();
        for (int bad : new int[] {SMALL, -1, 0, 1, 2, 4, 5, 6, 11, 12, BIG}) {
            Check.refusedArgument("receive by part " + bad, () -> x.receive(bad, 1));
        }
        Check.due("none came", x.count(8), 0);
        Check.due("part 3", x.receive(3, 1), 1);
        SystemParts y = new SystemParts();
        Check.refusedArgument("part 0 of none", () -> y.receive(0, 1));
        y.part(Kinds.SERIAL, 0, 0, 0, 0);
        Check.due("part 0", y.receive(0, 1), 1);
        Check.refusedArgument("part 1 of one", () -> y.receive(1, 1));
    }

    private static void receiveTakesNoStep() {
        SystemParts x = serial(7);
        x.receive(0, 1);
        Check.due("no step", x.count(0), 0);
        Check.due("no read", x.count(2), 0);
        Check.due("no write", x.count(3), 0);
    }

    /** Promise 8: "IllegalArgumentException, when the part is no such one": told ahead of a wrong k. */
    private static void sentByWhichPart() {
        SystemParts x = oneOfEachKind();
        x.write(300, 5);
        x.step(4);
        for (int bad : new int[] {SMALL, -1, 0, 1, 2, 4, 5, 6, 11, 12, BIG}) {
            Check.refusedArgument("sent by part " + bad, () -> x.sent(bad, 0));
            Check.refusedArgument("sent by part " + bad + ", k -1", () -> x.sent(bad, -1));
            Check.refusedArgument("sent by part " + bad + ", k 1", () -> x.sent(bad, 1));
        }
        Check.due("part 3", x.sent(3, 0), 5);
    }

    /** "IndexOutOfBoundsException, when there is none." */
    private static void sentWhenThereIsNone() {
        SystemParts x = serial();
        Check.outOfBounds("none went out", () -> x.sent(0, 0));
        Check.outOfBounds("none went out", () -> x.sent(0, -1));
        send(x, 5);
        Check.outOfBounds("k -1", () -> x.sent(0, -1));
        Check.due("k 0", x.sent(0, 0), 5);
        Check.outOfBounds("k 1", () -> x.sent(0, 1));
        send(x, 6);
        Check.due("k 0 is the oldest", x.sent(0, 0), 5);
        Check.due("k 1", x.sent(0, 1), 6);
        Check.outOfBounds("k 2", () -> x.sent(0, 2));
        Check.outOfBounds("the greatest k", () -> x.sent(0, BIG));
        Check.outOfBounds("the least k", () -> x.sent(0, SMALL));
        Check.due("a look takes nothing", x.sent(0, 0), 5);
    }

    /** "of the latest 32 (the oldest of these 0)": 31, 32, 33, and round the whole of them. */
    private static void theLatest32() {
        for (int many : new int[] {31, 32, 33, 63, 64, 65, 97}) {
            SystemParts x = serial(3);
            for (int i = 1; i <= many; i++) {
                x.write(0, i);
            }
            x.step(4);
            int kept = many < 32 ? many : 32;
            Check.due("all of " + many, x.count(9), many);
            for (int k = 0; k < kept; k++) {
                Check.due("the " + k + "-th of " + many, x.sent(0, k), many - kept + 1 + k);
            }
            Check.outOfBounds("k " + kept + " of " + many, () -> x.sent(0, kept));
            Check.outOfBounds("k -1 of " + many, () -> x.sent(0, -1));
            x.reset();
            Check.outOfBounds("since the last reset", () -> x.sent(0, 0));
            send(x, 200);
            Check.due("since the last reset", x.sent(0, 0), 200);
            Check.outOfBounds("since the last reset", () -> x.sent(0, 1));
        }
    }

    private static void linesOfTheirOwn() {
        SystemParts x = new SystemParts();
        x.part(Kinds.SERIAL, 0, 0, 1, 0);
        x.part(Kinds.SERIAL, 10, 0, 2, 0);
        for (int i = 0; i < 32; i++) {
            x.receive(0, i);
        }
        Check.due("the other one is empty", x.receive(1, 50), 1);
        Check.due("all of both", x.count(8), 33);
        Check.due("its own number", x.read(10), 50);
        x.write(0, 1);
        x.write(10, 2);
        x.step(3);
        Check.due("the first is out", x.sent(0, 0), 1);
        Check.outOfBounds("the other one not yet", () -> x.sent(1, 0));
        x.step(1);
        Check.due("now it is", x.sent(1, 0), 2);
        Check.due("both", x.count(9), 2);
    }
}

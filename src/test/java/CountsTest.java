/** The COUNTS: what each of its registers tells, and since when. */
final class CountsTest {
    public static void main(String[] args) {
        sinceThePartCame();
        sinceItWasWritten();
        sinceTheLastReset();
        Check.end();
    }

    private static void sinceThePartCame() {
        SystemParts x = new SystemParts();
        x.part(Kinds.STORE, 0, 4, 0, 1);
        x.part(Kinds.COUNTS, 10, 0, 0, 0);
        x.step(3);
        x.write(0, 1);
        x.read(0);
        Check.fault("a fault", () -> x.read(500));
        x.part(Kinds.COUNTS, 20, 0, 0, 2);
        Check.due("steps of the first", x.read(10), 8);
        Check.due("reads of the first", x.read(11), 3);
        Check.due("writes of the first", x.read(12), 1);
        Check.due("faults of the first", x.read(13), 1);
        Check.due("steps of the second", x.read(20), 7);
        Check.due("reads of the second", x.read(21), 6);
        Check.due("writes of the second", x.read(22), 0);
        Check.due("faults of the second", x.read(23), 0);
    }

    private static void sinceItWasWritten() {
        SystemParts x = new SystemParts();
        x.part(Kinds.COUNTS, 0, 0, 0, 0);
        x.part(Kinds.COUNTS, 10, 0, 0, 0);
        x.step(5);
        x.read(1);
        Check.fault("a fault", () -> x.write(500, 1));
        x.write(0, 99);
        Check.due("steps", x.read(0), 1);
        x.write(2, 77);
        Check.due("the write itself counts ahead", x.read(2), 0);
        x.write(1, -1);
        Check.due("the read itself counts ahead", x.read(1), 1);
        x.write(3, 5);
        Check.due("faults", x.read(3), 0);
        Check.due("the other one's steps", x.read(10), 15);
        Check.due("the other one's reads", x.read(11), 7);
        Check.due("the other one's writes", x.read(12), 4);
        Check.due("the other one's faults", x.read(13), 1);
        Check.due("count(2) says all", x.count(2), 9);
        Check.due("count(3) says all", x.count(3), 4);
        Check.due("count(4) says all", x.count(4), 1);
    }

    private static void sinceTheLastReset() {
        SystemParts x = new SystemParts();
        x.part(Kinds.COUNTS, 0, 0, 0, 0);
        x.step(5);
        x.read(0);
        x.write(0, 1);
        Check.fault("a fault", () -> x.read(500));
        x.reset();
        Check.due("writes", x.read(2), 0);
        Check.due("faults", x.read(3), 0);
        Check.due("reads", x.read(1), 3);
        Check.due("steps", x.read(0), 4);
    }
}

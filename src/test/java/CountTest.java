/** Promise 14: count. */
final class CountTest {
    public static void main(String[] args) {
        anotherWhat();
        eachWhat();
        Check.end();
    }

    private static void anotherWhat() {
        SystemParts x = new SystemParts();
        for (int bad : new int[] {-1, 10, 11, Integer.MAX_VALUE, Integer.MIN_VALUE}) {
            Check.due("count(" + bad + ")", x.count(bad), SystemParts.NONE);
        }
    }

    private static void eachWhat() {
        SystemParts x = new SystemParts();
        x.part(Kinds.STORE, 0, 4, 0, 2);
        x.part(Kinds.SERIAL, 10, 0, 15, 0);
        x.part(Kinds.SERIAL, 20, 0, 7, 0);
        x.part(Kinds.COUNTS, 30, 0, 0, 0);
        x.write(0, 1);
        x.read(0);
        x.read(0);
        Check.fault("a fault", () -> x.read(9));
        Check.fault("a fault", () -> x.write(9, 1));
        x.write(10, 1);
        x.write(20, 2);
        x.step(4);
        x.write(10, 3);
        x.step(3);
        x.receive(1, 1);
        x.receive(1, 2);
        x.receive(2, 3);
        Check.due("time", x.count(0), 19);
        Check.due("parts", x.count(1), 4);
        Check.due("reads", x.count(2), 2);
        Check.due("writes", x.count(3), 4);
        Check.due("faults", x.count(4), 2);
        Check.due("cause", x.count(5), 0);
        Check.due("to be read in all SERIALs", x.count(8), 3);
        Check.due("sent by all SERIALs", x.count(9), 2);
        x.line(7, Kinds.WAY, Kinds.RISE);
        x.write(12, 1);
        x.write(22, 1);
        Check.due("sent by all SERIALs", x.count(9), 3);
        Check.due("up", x.count(6), 0x8080);
        Check.due("pending", x.count(7), 0x8080);
        x.read(20);
        Check.due("line 7 is down", x.count(6), 0x8000);
        Check.due("but pending", x.count(7), 0x8080);
        for (int register = 0; register < 4; register++) {
            x.write(30 + register, 0);
        }
        Check.due("reads, whatever a COUNTS says", x.count(2), 3);
        Check.due("writes, whatever a COUNTS says", x.count(3), 10);
        Check.due("faults, whatever a COUNTS says", x.count(4), 2);
    }
}

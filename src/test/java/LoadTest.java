/** Promise 3: load. */
final class LoadTest {
    public static void main(String[] args) {
        SystemParts x = new SystemParts();
        x.part(Kinds.STORE, 10, 4, 0, 3);
        x.part(Kinds.FIXED, 20, 4, 0, 2);
        x.part(Kinds.TIMER, 30, 0, 0, 0);
        x.part(Kinds.SERIAL, 40, 0, 0, 0);
        x.part(Kinds.ROWS, 50, 0, 0, 0);
        x.part(Kinds.COUNTS, 70, 0, 0, 0);
        Check.due("load into a STORE", x.load(13, -5), 0);
        Check.due("load again", x.load(13, Integer.MIN_VALUE), -5);
        Check.due("load into a FIXED", x.load(20, 77), 0);
        Check.due("load again", x.load(20, 78), 77);
        Check.due("no step", x.count(0), 0);
        Check.due("no read", x.count(2), 0);
        Check.due("no write", x.count(3), 0);
        Check.due("read what was loaded", x.read(13), Integer.MIN_VALUE);
        Check.due("read what was loaded", x.read(20), 78);
        Check.due("the place beside it", x.read(21), 0);
        x.write(11, 9);
        Check.due("load tells what was written", x.load(11, 1), 9);
        int faults = x.count(4);
        for (int bad : new int[] {-1, 9, 14, 19, 24, 30, 33, 40, 42, 50, 60, 70, 73, 65535, 65536,
                Integer.MAX_VALUE, Integer.MIN_VALUE}) {
            Check.refusedArgument("load at " + bad, () -> x.load(bad, 1));
        }
        Check.due("a refused load is no fault", x.count(4), faults);
        Check.end();
    }
}

/** Promise 2: part. */
final class PartTest {
    private static final int BIG = Integer.MAX_VALUE;
    private static final int SMALL = Integer.MIN_VALUE;

    public static void main(String[] args) {
        numbersComeInOrder();
        wrongNumbersAreRefused();
        lengthsOfKinds();
        noPartLiesUponAnother();
        theMapHasAnEnd();
        twelveAndNoMore();
        registersAreNoughtAtFirst();
        Check.end();
    }

    private static void numbersComeInOrder() {
        SystemParts x = new SystemParts();
        for (int kind = 0; kind <= 5; kind++) {
            Check.due("part of kind " + kind, x.part(kind, 100 * kind, 64, 15, 7), kind);
            Check.due("parts", x.count(1), kind + 1);
        }
        Check.due("a part takes no time", x.count(0), 0);
    }

    private static void wrongNumbersAreRefused() {
        SystemParts x = new SystemParts();
        for (int bad : new int[] {-1, 6, BIG, SMALL}) {
            Check.refusedArgument("kind " + bad, () -> x.part(bad, 0, 1, 0, 0));
        }
        for (int bad : new int[] {-1, 16, BIG, SMALL}) {
            Check.refusedArgument("line " + bad, () -> x.part(2, 0, 1, bad, 0));
        }
        for (int bad : new int[] {-1, 8, BIG, SMALL}) {
            Check.refusedArgument("waits " + bad, () -> x.part(2, 0, 1, 0, bad));
        }
        for (int bad : new int[] {0, -1, 65, BIG, SMALL}) {
            Check.refusedArgument("size of a STORE " + bad, () -> x.part(0, 0, bad, 0, 0));
            Check.refusedArgument("size of a FIXED " + bad, () -> x.part(1, 0, bad, 0, 0));
        }
        Check.due("none of them came", x.count(1), 0);
        for (int kind = 2; kind <= 5; kind++) {
            Check.due("size counts for kinds 0 and 1 alone", x.part(kind, 100 * kind, SMALL, 0, 0), kind - 2);
        }
        Check.due("size 64", x.part(0, 1000, 64, 0, 0), 4);
        Check.due("size 1", x.part(1, 1064, 1, 0, 0), 5);
    }

    private static void lengthsOfKinds() {
        int[] lengths = {5, 5, 4, 3, 11, 4};
        for (int kind = 0; kind < lengths.length; kind++) {
            SystemParts x = new SystemParts();
            int end = 50 + lengths[kind];
            x.part(kind, 50, 5, 0, 0);
            Check.due("its first place", x.read(50) >= 0, true);
            Check.due("its last place", x.read(end - 1) >= 0, true);
            Check.fault("the place ahead of it", () -> x.read(49));
            Check.fault("the place behind it", () -> x.read(end));
            Check.refusedArgument("on its last place", () -> x.part(0, end - 1, 1, 0, 0));
            Check.due("close behind it", x.part(0, end, 1, 0, 0), 1);
        }
    }

    private static void noPartLiesUponAnother() {
        SystemParts x = new SystemParts();
        x.part(0, 100, 10, 0, 0);
        Check.refusedArgument("on its first place", () -> x.part(0, 91, 10, 0, 0));
        Check.refusedArgument("on its last place", () -> x.part(0, 109, 10, 0, 0));
        Check.refusedArgument("within it", () -> x.part(2, 104, 0, 0, 0));
        Check.refusedArgument("all round it", () -> x.part(1, 90, 40, 0, 0));
        Check.refusedArgument("the same", () -> x.part(0, 100, 10, 0, 0));
        x.part(0, 3, 1, 0, 0);
        Check.refusedArgument("from the first place on", () -> x.part(0, 0, 4, 0, 0));
        Check.due("close ahead of it", x.part(0, 90, 10, 0, 0), 2);
        Check.due("close behind it", x.part(0, 110, 10, 0, 0), 3);
        Check.due("from the first place on, close ahead", x.part(0, 0, 3, 0, 0), 4);
    }

    private static void theMapHasAnEnd() {
        SystemParts x = new SystemParts();
        for (int bad : new int[] {-1, -64, SMALL, 65536, 70000, BIG, BIG - 3}) {
            Check.refusedArgument("from " + bad, () -> x.part(0, bad, 64, 0, 0));
            Check.refusedArgument("a TIMER from " + bad, () -> x.part(2, bad, 64, 0, 0));
        }
        Check.refusedArgument("one place too far", () -> x.part(0, 65473, 64, 0, 0));
        Check.refusedArgument("a TIMER one place too far", () -> x.part(2, 65533, 1, 0, 0));
        Check.refusedArgument("ROWS one place too far", () -> x.part(4, 65526, 1, 0, 0));
        Check.due("up to the last place", x.part(0, 65472, 64, 0, 0), 0);
        Check.due("from the first place", x.part(4, 0, 1, 0, 0), 1);
        x.write(65535, 7);
        Check.due("the last place", x.read(65535), 7);
    }

    private static void twelveAndNoMore() {
        SystemParts x = new SystemParts();
        for (int i = 0; i < 12; i++) {
            Check.due("part " + i, x.part(i % 6, 64 * i, 64, i, i % 8), i);
        }
        Check.unsupported("a thirteenth", () -> x.part(0, 5000, 1, 0, 0));
        Check.refusedArgument("a thirteenth of no kind", () -> x.part(6, 5000, 1, 0, 0));
        Check.refusedArgument("a thirteenth upon another", () -> x.part(0, 0, 1, 0, 0));
        Check.refusedArgument("a thirteenth beyond the places", () -> x.part(0, 65536, 1, 0, 0));
        Check.due("twelve stay", x.count(1), 12);
        x.reset();
        Check.unsupported("behind a reset too", () -> x.part(0, 5000, 1, 0, 0));
    }

    private static void registersAreNoughtAtFirst() {
        SystemParts x = new SystemParts();
        x.part(0, 0, 64, 0, 0);
        x.part(1, 100, 64, 0, 0);
        x.part(2, 200, 0, 0, 0);
        x.part(4, 300, 0, 0, 0);
        for (int i = 0; i < 64; i++) {
            Check.due("STORE", x.read(i), 0);
            Check.due("FIXED", x.read(100 + i), 0);
        }
        for (int i = 0; i < 4; i++) {
            Check.due("TIMER", x.read(200 + i), 0);
        }
        for (int i = 0; i < 11; i++) {
            Check.due("ROWS", x.read(300 + i), 0);
        }
    }
}

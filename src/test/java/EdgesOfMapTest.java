/** The boundary cases of the map: places, parts, sizes, lines and waits (Terms, and promises 1 and 2). */
final class EdgesOfMapTest {
    private static final int BIG = Integer.MAX_VALUE;
    private static final int SMALL = Integer.MIN_VALUE;
    private static final int LAST = 65535;
    private static final int[] LENGTHS = {1, 1, 4, 3, 11, 4};

    public static void main(String[] args) {
        placesWithoutParts();
        placesWithParts();
        upToTwelveParts();
        theTwelfthIsAPartLikeTheOthers();
        noneUponAnotherOne();
        noneUponTheLastOfTwelve();
        partsThatMeetByTheirSizes();
        linesOfParts();
        waitsOfParts();
        registersOneAPlace();
        registersAtFirst();
        sizesOfStoreAndFixed();
        sizeCountsForKinds0And1Alone();
        kinds();
        notBeyondThePlaces();
        aRefusedPartTakesNoNumber();
        aPartComesAtAnyTime();
        Check.end();
    }

    /** "PLACES are 0 .. 65535", where none has a part. */
    private static void placesWithoutParts() {
        SystemParts x = new SystemParts();
        Check.outOfBounds("read(-1)", () -> x.read(-1));
        Check.outOfBounds("write(-1)", () -> x.write(-1, 1));
        Check.fault("read(0)", () -> x.read(0));
        Check.fault("write(0)", () -> x.write(0, 1));
        Check.fault("read(65535)", () -> x.read(LAST));
        Check.fault("write(65535)", () -> x.write(LAST, 1));
        Check.outOfBounds("read(65536)", () -> x.read(LAST + 1));
        Check.outOfBounds("write(65536)", () -> x.write(LAST + 1, 1));
        Check.due("only places can be at fault", x.count(4), 4);
    }

    /** "PLACES are 0 .. 65535", where the first and the last have a part. */
    private static void placesWithParts() {
        SystemParts x = new SystemParts();
        x.part(Kinds.STORE, 0, 1, 0, 0);
        x.part(Kinds.STORE, LAST, 1, 0, 0);
        Check.due("write(0)", x.write(0, 5), 1);
        Check.due("write(65535)", x.write(LAST, 6), 1);
        Check.due("read(0)", x.read(0), 5);
        Check.due("read(65535)", x.read(LAST), 6);
        Check.due("load(0)", x.load(0, 7), 5);
        Check.due("load(65535)", x.load(LAST, 8), 6);
        Check.outOfBounds("read(-1)", () -> x.read(-1));
        Check.outOfBounds("read(65536): places do not come round", () -> x.read(LAST + 1));
        Check.outOfBounds("write(65536)", () -> x.write(LAST + 1, 1));
        Check.outOfBounds("read of the least number", () -> x.read(SMALL));
        Check.outOfBounds("read of the greatest number", () -> x.read(BIG));
        Check.due("no faults", x.count(4), 0);
    }

    /** "Up to 12 PARTS lie in the map": of each kind. */
    private static void upToTwelveParts() {
        for (int kind = 0; kind <= 5; kind++) {
            SystemParts x = new SystemParts();
            int k = kind;
            for (int i = 0; i < 12; i++) {
                Check.due("part " + i + " of kind " + k, x.part(k, 20 * i, 1, 0, 0), i);
                Check.due("parts", x.count(1), i + 1);
            }
            Check.unsupported("a thirteenth", () -> x.part(k, 500, 1, 0, 0));
            Check.unsupported("a thirteenth again", () -> x.part(0, 500, 1, 0, 0));
            Check.due("twelve", x.count(1), 12);
            Check.fault("it does not lie there", () -> x.read(500));
        }
    }

    private static void theTwelfthIsAPartLikeTheOthers() {
        SystemParts x = new SystemParts();
        for (int i = 0; i < 11; i++) {
            x.part(Kinds.STORE, i, 1, 0, 0);
        }
        Check.due("the twelfth", x.part(Kinds.SERIAL, 100, 0, 15, 0), 11);
        Check.due("it receives", x.receive(11, 5), 1);
        x.write(102, 1);
        Check.due("it asks", x.asks(15), 3);
        x.write(100, 77);
        x.step(4);
        Check.due("it sends", x.sent(11, 0), 77);
        Check.due("all SERIALs", x.count(8), 1);
        Check.due("all SERIALs", x.count(9), 1);
        x.reset();
        Check.due("it is reset", x.read(102), 0);
        SystemParts y = new SystemParts();
        for (int i = 0; i < 11; i++) {
            y.part(Kinds.STORE, i, 1, 0, 0);
        }
        y.part(Kinds.COUNTS, 100, 0, 0, 0);
        y.read(0);
        Check.due("a COUNTS as the twelfth", y.read(101), 2);
    }

    /** "each from a place on, none upon another one": each kind against each, on both sides. */
    private static void noneUponAnotherOne() {
        for (int a = 0; a <= 5; a++) {
            for (int b = 0; b <= 5; b++) {
                int kind = b;
                int end = 100 + LENGTHS[a];
                SystemParts x = new SystemParts();
                x.part(a, 100, 1, 0, 0);
                Check.refusedArgument("upon its first place", () -> x.part(kind, 101 - LENGTHS[kind], 1, 0, 0));
                Check.refusedArgument("upon its last place", () -> x.part(kind, end - 1, 1, 0, 0));
                Check.refusedArgument("upon the whole of it", () -> x.part(kind, 100, 1, 0, 0));
                Check.due("close ahead of it", x.part(kind, 100 - LENGTHS[kind], 1, 0, 0), 1);
                Check.due("close behind it", x.part(kind, end, 1, 0, 0), 2);
            }
        }
    }

    private static void noneUponTheLastOfTwelve() {
        SystemParts x = new SystemParts();
        for (int i = 0; i < 12; i++) {
            x.part(Kinds.STORE, 2 * i, 1, 0, 0);
        }
        for (int i = 0; i < 12; i++) {
            int place = 2 * i;
            Check.refusedArgument("upon part " + i, () -> x.part(Kinds.STORE, place, 1, 0, 0));
            Check.unsupported("beside part " + i, () -> x.part(Kinds.STORE, place + 1, 1, 0, 0));
        }
    }

    private static void partsThatMeetByTheirSizes() {
        SystemParts x = new SystemParts();
        x.part(Kinds.STORE, 1000, 64, 0, 0);
        Check.refusedArgument("64 places, one of them upon it", () -> x.part(Kinds.FIXED, 937, 64, 0, 0));
        Check.refusedArgument("64 places, one of them upon it", () -> x.part(Kinds.FIXED, 1063, 64, 0, 0));
        Check.due("64 places ahead", x.part(Kinds.FIXED, 936, 64, 0, 0), 1);
        Check.due("64 places behind", x.part(Kinds.FIXED, 1064, 64, 0, 0), 2);
        x.part(Kinds.STORE, 2030, 1, 0, 0);
        Check.refusedArgument("all round a small one", () -> x.part(Kinds.STORE, 2000, 64, 0, 0));
        Check.refusedArgument("up to it", () -> x.part(Kinds.STORE, 2000, 31, 0, 0));
        Check.due("up to the place ahead of it", x.part(Kinds.STORE, 2000, 30, 0, 0), 4);
        x.part(Kinds.STORE, 3, 1, 0, 0);
        Check.refusedArgument("from the first place up to it", () -> x.part(Kinds.STORE, 0, 4, 0, 0));
        Check.due("from the first place up to the one ahead of it", x.part(Kinds.STORE, 0, 3, 0, 0), 6);
    }

    /** "a LINE (0 .. 15) by which it may ask". */
    private static void linesOfParts() {
        for (int kind = 0; kind <= 5; kind++) {
            SystemParts x = new SystemParts();
            int k = kind;
            Check.refusedArgument("line -1", () -> x.part(k, 0, 1, -1, 0));
            Check.refusedArgument("line 16", () -> x.part(k, 0, 1, 16, 0));
            Check.refusedArgument("the least line", () -> x.part(k, 0, 1, SMALL, 0));
            Check.refusedArgument("the greatest line", () -> x.part(k, 0, 1, BIG, 0));
            Check.due("line 0", x.part(k, 0, 1, 0, 0), 0);
            Check.due("line 15", x.part(k, 20, 1, 15, 0), 1);
        }
        for (int line = 0; line < 16; line++) {
            SystemParts x = new SystemParts();
            x.part(Kinds.SERIAL, 0, 0, line, 0);
            x.write(2, 2);
            Check.due("it asks by line " + line + " alone", x.count(6), 1 << line);
        }
    }

    /** "WAITS (0 .. 7)". */
    private static void waitsOfParts() {
        for (int kind = 0; kind <= 5; kind++) {
            SystemParts x = new SystemParts();
            int k = kind;
            Check.refusedArgument("waits -1", () -> x.part(k, 0, 1, 0, -1));
            Check.refusedArgument("waits 8", () -> x.part(k, 0, 1, 0, 8));
            Check.refusedArgument("the least waits", () -> x.part(k, 0, 1, 0, SMALL));
            Check.refusedArgument("the greatest waits", () -> x.part(k, 0, 1, 0, BIG));
            Check.due("waits 0", x.part(k, 0, 1, 0, 0), 0);
            Check.due("waits 7", x.part(k, 20, 1, 0, 7), 1);
            x.read(0);
            Check.due("a read without waits", x.count(0), 1);
            x.read(20);
            Check.due("a read with 7 waits", x.count(0), 9);
        }
    }

    /** "REGISTERS, one a place": as many as the document tells of each kind, and no place more. */
    private static void registersOneAPlace() {
        for (int kind = 0; kind <= 5; kind++) {
            SystemParts x = new SystemParts();
            x.part(kind, 100, 1, 0, 0);
            int end = 100 + LENGTHS[kind];
            Check.fault("the place ahead of kind " + kind, () -> x.read(99));
            Check.fault("the place behind kind " + kind, () -> x.read(end));
            Check.fault("a write ahead", () -> x.write(99, 1));
            Check.fault("a write behind", () -> x.write(end, 1));
            Check.due("four faults", x.count(4), 4);
            for (int place = 100; place < end; place++) {
                x.read(place);
            }
            Check.due("reads of all its places", x.count(2), LENGTHS[kind]);
        }
    }

    /** "(32 bits, 0 at first unless told)": told otherwise are a SERIAL's register 1 and what a COUNTS counts. */
    private static void registersAtFirst() {
        int[][] atFirst = {{0}, {0}, {0, 0, 0, 0}, {0, 2, 0}, {0, 0, 0, 0, 0, 0, 0, 0, 0, 0, 0}, {1, 2, 0, 0}};
        for (int kind = 0; kind <= 5; kind++) {
            SystemParts x = new SystemParts();
            x.part(kind, 100, 1, 0, 0);
            for (int i = 0; i < atFirst[kind].length; i++) {
                Check.due("register " + i + " of kind " + kind, x.read(100 + i), atFirst[kind][i]);
            }
        }
    }

    /** "as many places as told (1 .. 64)", and promise 2: "the size (kinds 0, 1) not 1 .. 64". */
    private static void sizesOfStoreAndFixed() {
        for (int kind = 0; kind <= 1; kind++) {
            SystemParts x = new SystemParts();
            int k = kind;
            for (int bad : new int[] {SMALL, -1, 0, 65, BIG}) {
                Check.refusedArgument("size " + bad, () -> x.part(k, 0, bad, 0, 0));
            }
            Check.due("size 1", x.part(k, 0, 1, 0, 0), 0);
            Check.fault("it has one place", () -> x.read(1));
            Check.due("size 64", x.part(k, 100, 64, 0, 0), 1);
            Check.due("its last place", x.read(163), 0);
            Check.fault("it has 64 places", () -> x.read(164));
            Check.due("size 63", x.part(k, 200, 63, 0, 0), 2);
            Check.due("its last place", x.read(262), 0);
            Check.fault("it has 63 places", () -> x.read(263));
        }
    }

    /** "size counts for kinds 0 and 1 alone": any number will do for the others, and changes nothing. */
    private static void sizeCountsForKinds0And1Alone() {
        for (int kind = 2; kind <= 5; kind++) {
            for (int size : new int[] {SMALL, -1, 0, 1, 64, 65, BIG}) {
                SystemParts x = new SystemParts();
                int end = 100 + LENGTHS[kind];
                Check.due("kind " + kind + ", size " + size, x.part(kind, 100, size, 0, 0), 0);
                x.read(end - 1);
                Check.fault("its places end there", () -> x.read(end));
                Check.due("close behind it", x.part(Kinds.STORE, end, 1, 0, 0), 1);
            }
        }
    }

    /** Promise 2: "when the kind is not 0 .. 5". */
    private static void kinds() {
        SystemParts x = new SystemParts();
        for (int bad : new int[] {SMALL, -1, 6, BIG}) {
            Check.refusedArgument("kind " + bad, () -> x.part(bad, 0, 1, 0, 0));
        }
        Check.due("kind 0", x.part(0, 0, 1, 0, 0), 0);
        Check.due("kind 5", x.part(5, 10, 1, 0, 0), 1);
    }

    /** "or it would lie upon another one or beyond the places". */
    private static void notBeyondThePlaces() {
        for (int kind = 0; kind <= 5; kind++) {
            SystemParts x = new SystemParts();
            int k = kind;
            int from = 65536 - LENGTHS[kind];
            Check.refusedArgument("one place beyond", () -> x.part(k, from + 1, 1, 0, 0));
            Check.refusedArgument("from 65536 on", () -> x.part(k, 65536, 1, 0, 0));
            Check.refusedArgument("from the greatest number on", () -> x.part(k, BIG, 1, 0, 0));
            Check.refusedArgument("one place ahead of the first", () -> x.part(k, -1, 1, 0, 0));
            Check.refusedArgument("all ahead of the first", () -> x.part(k, -LENGTHS[k], 1, 0, 0));
            Check.refusedArgument("from the least number on", () -> x.part(k, SMALL, 1, 0, 0));
            Check.due("up to the last place", x.part(k, from, 1, 0, 0), 0);
            Check.due("from the first place on", x.part(k, 0, 1, 0, 0), 1);
            x.read(LAST);
            x.read(0);
            Check.due("both were read", x.count(2), 2);
        }
        SystemParts y = new SystemParts();
        Check.refusedArgument("64 places, one beyond", () -> y.part(Kinds.STORE, 65473, 64, 0, 0));
        Check.due("64 places", y.part(Kinds.STORE, 65472, 64, 0, 0), 0);
    }

    /** "its number": parts are numbered in the order in which they came, without a gap. */
    private static void aRefusedPartTakesNoNumber() {
        SystemParts x = new SystemParts();
        Check.due("the first", x.part(Kinds.STORE, 0, 1, 0, 0), 0);
        Check.refusedArgument("upon it", () -> x.part(Kinds.SERIAL, 0, 1, 0, 0));
        Check.due("the next", x.part(Kinds.SERIAL, 10, 0, 0, 0), 1);
        Check.due("it is that one", x.receive(1, 4), 1);
        x.reset();
        Check.due("a reset leaves the numbers", x.part(Kinds.SERIAL, 20, 0, 0, 0), 2);
        Check.due("it is that one", x.receive(2, 4), 1);
    }

    private static void aPartComesAtAnyTime() {
        SystemParts x = new SystemParts();
        x.step(1000);
        x.part(Kinds.TIMER, 0, 0, 0, 0);
        Check.due("a part takes no step", x.count(0), 1000);
        x.write(1, 2);
        x.write(2, 1);
        x.step(1);
        Check.due("its count began with it", x.read(0), 2);
    }
}

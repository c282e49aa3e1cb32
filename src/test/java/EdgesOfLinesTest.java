/** The boundary cases of lines: ways, ranks, hiding, choosing and taking (Terms, and promises 9 to 12). */
final class EdgesOfLinesTest {
    private static final int BIG = Integer.MAX_VALUE;
    private static final int SMALL = Integer.MIN_VALUE;
    private static final int NONE = SystemParts.NONE;

    public static void main(String[] args) {
        linesZeroToFifteen();
        waysRanksAndHiding();
        theFirstExceptionTold();
        atFirst();
        upBehindStepsReadsAndWrites();
        notBehindOtherCalls();
        upAsLongAsAnyPartAsks();
        levelIsPendingAsLongAsItIsUp();
        riseIsPendingUntilItIsTaken();
        changeIsPendingUntilItIsTaken();
        riseAndFallWithinOneCall();
        anotherWay();
        theSameWay();
        hiddenOnesGoOnPending();
        theGreatestRank();
        ofSeveralTheLowest();
        noneToChoose();
        takeByEachWay();
        takeOfNone();
        aNewRiseBehindATake();
        Check.end();
    }

    /** A line's only part is a SERIAL of mode 2 or 0: up or down behind one write. */
    private static SystemParts serials(int... lines) {
        SystemParts x = new SystemParts();
        for (int i = 0; i < lines.length; i++) {
            x.part(Kinds.SERIAL, 10 * i, 0, lines[i], 0);
        }
        return x;
    }

    private static void up(SystemParts x, int part) {
        x.write(10 * part + 2, 2);
    }

    private static void down(SystemParts x, int part) {
        x.write(10 * part + 2, 0);
    }

    /** "LINES 0 .. 15", in promise 9 "when there is no such line", in promise 10 "when there is none". */
    private static void linesZeroToFifteen() {
        SystemParts x = serials(0, 15);
        for (int bad : new int[] {SMALL, -16, -1, 16, 17, 31, 32, BIG}) {
            Check.outOfBounds("asks(" + bad + ")", () -> x.asks(bad));
            for (int what = 0; what <= 2; what++) {
                int w = what;
                Check.outOfBounds("line(" + bad + ", " + w + ", 1)", () -> x.line(bad, w, 1));
            }
        }
        up(x, 0);
        up(x, 1);
        for (int line = 0; line < 16; line++) {
            Check.due("asks(" + line + ")", x.asks(line), line == 0 || line == 15 ? 3 : 0);
        }
        for (int line : new int[] {0, 15}) {
            Check.due("a way", x.line(line, Kinds.WAY, 2), 0);
            Check.due("a rank", x.line(line, Kinds.RANK, 15), 0);
            Check.due("hidden", x.line(line, Kinds.HIDDEN, 1), 0);
        }
        Check.due("line 1 is not line 0's", x.line(1, Kinds.RANK, 0), 0);
        Check.due("line 14 is not line 15's", x.line(14, Kinds.RANK, 0), 0);
    }

    /** "way (what 0: 0 .. 2), rank (1: 0 .. 15), whether it is hidden (2: 0, 1)"; "for another what or number". */
    private static void waysRanksAndHiding() {
        int[] greatest = {2, 15, 1};
        for (int what = 0; what <= 2; what++) {
            SystemParts x = new SystemParts();
            int w = what;
            int most = greatest[what];
            for (int bad : new int[] {SMALL, -1, most + 1, 16, 255, BIG}) {
                Check.refusedArgument("line(7, " + w + ", " + bad + ")", () -> x.line(7, w, bad));
            }
            Check.due("the greatest", x.line(7, w, most), 0);
            Check.refusedArgument("one more", () -> x.line(7, w, most + 1));
            Check.due("the refused one changed nothing", x.line(7, w, 0), most);
            Check.refusedArgument("one less", () -> x.line(7, w, -1));
            Check.due("the least", x.line(7, w, 0), 0);
            for (int v = 0; v <= most; v++) {
                x.line(7, w, v);
                Check.due("the one before", x.line(7, w, v), v);
            }
        }
        SystemParts y = new SystemParts();
        for (int bad : new int[] {SMALL, -1, 3, 4, BIG}) {
            Check.refusedArgument("what " + bad, () -> y.line(0, bad, 0));
            Check.refusedArgument("what " + bad + ", a number that others have", () -> y.line(0, bad, 1));
        }
    }

    /** "Of several exceptions the first one told is thrown." */
    private static void theFirstExceptionTold() {
        SystemParts x = new SystemParts();
        Check.outOfBounds("a wrong line and a wrong what", () -> x.line(16, 3, 0));
        Check.outOfBounds("a wrong line and a wrong number", () -> x.line(-1, 0, 3));
        Check.outOfBounds("all wrong", () -> x.line(16, -1, -1));
        Check.refusedArgument("a wrong what and a wrong number", () -> x.line(15, 3, -1));
    }

    /** "(A line's way is 0, its RANK 0, and it is not HIDDEN, at first.)" */
    private static void atFirst() {
        SystemParts x = new SystemParts();
        for (int line = 0; line < 16; line++) {
            for (int what = 0; what <= 2; what++) {
                Check.due("line " + line + ", what " + what, x.line(line, what, 1), 0);
            }
        }
    }

    /** "a line is UP, when a part with it asks (behind each step, and behind each read and write)". */
    private static void upBehindStepsReadsAndWrites() {
        SystemParts x = serials(3);
        x.part(Kinds.STORE, 100, 1, 0, 0);
        x.write(2, 1);
        x.receive(0, 1);
        Check.due("ahead of a step", x.asks(3), 0);
        x.step(1);
        Check.due("behind a step", x.asks(3), 3);
        x.read(0);
        Check.due("behind a read that ends it", x.asks(3), 0);
        x.receive(0, 1);
        x.read(100);
        Check.due("behind a read of another part", x.asks(3), 3);
        x.write(2, 0);
        Check.due("behind a write that ends it", x.asks(3), 0);
        x.write(2, 1);
        Check.due("behind a write that begins it", x.asks(3), 3);
    }

    private static void notBehindOtherCalls() {
        SystemParts x = serials(3);
        x.part(Kinds.STORE, 100, 1, 0, 0);
        x.write(2, 1);
        x.receive(0, 1);
        x.load(100, 1);
        x.part(Kinds.SERIAL, 200, 0, 3, 0);
        x.line(3, Kinds.RANK, 1);
        x.chosen();
        x.take();
        x.count(6);
        Check.due("not up", x.asks(3), 0);
        Check.due("not up", x.count(6), 0);
        Check.due("not chosen", x.chosen(), NONE);
        x.step(1);
        Check.due("up", x.asks(3), 3);
    }

    private static void upAsLongAsAnyPartAsks() {
        SystemParts x = serials(3, 3, 4);
        x.line(3, Kinds.WAY, Kinds.CHANGE);
        up(x, 0);
        Check.due("the first asks", x.take(), 3);
        up(x, 1);
        Check.due("both ask: no change", x.asks(3), 1);
        down(x, 0);
        Check.due("the second asks: no change", x.asks(3), 1);
        down(x, 1);
        Check.due("none asks: a change", x.asks(3), 2);
        up(x, 2);
        Check.due("another line's part", x.asks(3), 2);
    }

    /** "0 LEVEL: it is PENDING as long as it is up." */
    private static void levelIsPendingAsLongAsItIsUp() {
        SystemParts x = serials(3);
        Check.due("down", x.asks(3), 0);
        up(x, 0);
        Check.due("up", x.asks(3), 3);
        x.step(1000);
        Check.due("up for long", x.asks(3), 3);
        Check.due("a take leaves it", x.take(), 3);
        Check.due("up and taken", x.asks(3), 3);
        down(x, 0);
        Check.due("down again", x.asks(3), 0);
    }

    /** "1 RISE: it is pending from when it goes up, until it is taken." */
    private static void riseIsPendingUntilItIsTaken() {
        SystemParts x = serials(3);
        x.line(3, Kinds.WAY, Kinds.RISE);
        Check.due("down", x.asks(3), 0);
        up(x, 0);
        Check.due("it goes up", x.asks(3), 3);
        down(x, 0);
        Check.due("down, not taken", x.asks(3), 2);
        up(x, 0);
        Check.due("up again, not taken", x.asks(3), 3);
        Check.due("a take", x.take(), 3);
        Check.due("two rises are taken by one", x.asks(3), 1);
        Check.due("no second take", x.take(), NONE);
        x.step(1000);
        Check.due("it stays up: no rise", x.asks(3), 1);
        down(x, 0);
        Check.due("it goes down: no rise", x.asks(3), 0);
    }

    /** "2 CHANGE: likewise from when it goes up or down." */
    private static void changeIsPendingUntilItIsTaken() {
        SystemParts x = serials(3);
        x.line(3, Kinds.WAY, Kinds.CHANGE);
        x.step(1);
        Check.due("down", x.asks(3), 0);
        up(x, 0);
        Check.due("it goes up", x.asks(3), 3);
        x.take();
        Check.due("taken", x.asks(3), 1);
        x.step(1000);
        Check.due("it stays up: no change", x.asks(3), 1);
        down(x, 0);
        Check.due("it goes down", x.asks(3), 2);
        x.take();
        Check.due("taken", x.asks(3), 0);
        x.step(1000);
        Check.due("it stays down: no change", x.asks(3), 0);
        up(x, 0);
        down(x, 0);
        Check.due("up and down", x.asks(3), 2);
        Check.due("both are taken by one", x.take(), 3);
        Check.due("both are taken by one", x.take(), NONE);
    }

    /** "behind each step": a line that is up between two steps of one write alone. */
    private static void riseAndFallWithinOneCall() {
        for (int way = 0; way <= 2; way++) {
            SystemParts x = new SystemParts();
            x.part(Kinds.SERIAL, 0, 0, 3, 3);
            x.write(2, 2);
            x.write(0, 1);
            x.line(3, Kinds.WAY, way);
            Check.due("down", x.asks(3), 0);
            x.write(0, 2);
            Check.due("it was up behind the fourth step, way " + way, x.asks(3), way == 0 ? 0 : 2);
        }
    }

    /** "(Another way: it is not pending by rise or change any more.)" */
    private static void anotherWay() {
        for (int from = 1; from <= 2; from++) {
            for (int to = 0; to <= 2; to++) {
                if (to == from) {
                    continue;
                }
                SystemParts x = serials(3);
                x.line(3, Kinds.WAY, from);
                up(x, 0);
                Check.due("the way before", x.line(3, Kinds.WAY, to), from);
                Check.due("up, from " + from + " to " + to, x.asks(3), to == 0 ? 3 : 1);
                x.line(3, Kinds.WAY, from);
                Check.due("and back: what was pending is gone", x.asks(3), 1);
                down(x, 0);
                Check.due("it goes down", x.asks(3), from == Kinds.CHANGE ? 2 : 0);
                SystemParts y = serials(3);
                y.line(3, Kinds.WAY, from);
                up(y, 0);
                down(y, 0);
                Check.due("down and pending", y.asks(3), 2);
                y.line(3, Kinds.WAY, to);
                Check.due("down, from " + from + " to " + to, y.asks(3), 0);
                Check.due("none is chosen", y.chosen(), NONE);
            }
        }
        SystemParts z = serials(3, 4);
        z.line(3, Kinds.WAY, Kinds.RISE);
        z.line(4, Kinds.WAY, Kinds.RISE);
        up(z, 0);
        up(z, 1);
        z.line(3, Kinds.WAY, Kinds.CHANGE);
        Check.due("the other line is pending still", z.count(7), 16);
    }

    private static void theSameWay() {
        for (int way = 0; way <= 2; way++) {
            SystemParts x = serials(3);
            x.line(3, Kinds.WAY, way);
            up(x, 0);
            Check.due("the way before", x.line(3, Kinds.WAY, way), way);
            Check.due("no other way: pending by " + way, x.asks(3), 3);
        }
    }

    private static void hiddenOnesGoOnPending() {
        for (int way = 0; way <= 2; way++) {
            SystemParts x = serials(3);
            x.line(3, Kinds.WAY, way);
            x.line(3, Kinds.HIDDEN, 1);
            up(x, 0);
            Check.due("hidden and pending by " + way, x.asks(3), 3);
            Check.due("not chosen", x.chosen(), NONE);
            Check.due("not taken", x.take(), NONE);
            Check.due("pending still", x.asks(3), 3);
            Check.due("hidden before", x.line(3, Kinds.HIDDEN, 0), 1);
            Check.due("chosen", x.chosen(), 3);
            x.line(3, Kinds.RANK, 15);
            Check.due("a rank ends nothing", x.asks(3), 3);
        }
    }

    /** "CHOSEN is of the pending lines that are not hidden that of the greatest rank". */
    private static void theGreatestRank() {
        SystemParts x = serials(0, 7, 15);
        for (int part = 0; part < 3; part++) {
            up(x, part);
        }
        x.line(15, Kinds.RANK, 15);
        x.line(7, Kinds.RANK, 14);
        Check.due("rank 15", x.chosen(), 15);
        x.line(15, Kinds.HIDDEN, 1);
        Check.due("hidden: rank 14", x.chosen(), 7);
        x.line(15, Kinds.HIDDEN, 0);
        x.line(7, Kinds.RANK, 15);
        Check.due("rank 15 both: the lower", x.chosen(), 7);
        down(x, 1);
        Check.due("not pending any more", x.chosen(), 15);
        x.line(15, Kinds.RANK, 0);
        Check.due("rank 0 both: the lower", x.chosen(), 0);
        x.line(15, Kinds.RANK, 1);
        Check.due("rank 1 against rank 0", x.chosen(), 15);
    }

    /** "of several the lowest". */
    private static void ofSeveralTheLowest() {
        int[] lines = {15, 14, 12, 11, 9, 8, 6, 5, 3, 2, 1, 0};
        SystemParts x = serials(lines);
        for (int part = 0; part < lines.length; part++) {
            x.line(lines[part], Kinds.RANK, 9);
            up(x, part);
            Check.due("the lowest of " + (part + 1), x.chosen(), lines[part]);
        }
        for (int part = lines.length - 1; part > 0; part--) {
            x.line(lines[part], Kinds.HIDDEN, 1);
            Check.due("the lowest of those that are not hidden", x.chosen(), lines[part - 1]);
        }
        x.line(15, Kinds.HIDDEN, 1);
        Check.due("all are hidden", x.chosen(), NONE);
    }

    /** Promise 11: "or NONE". */
    private static void noneToChoose() {
        SystemParts x = serials(0);
        Check.due("none is pending", x.chosen(), NONE);
        x.line(0, Kinds.RANK, 15);
        Check.due("a rank alone is not enough", x.chosen(), NONE);
        up(x, 0);
        Check.due("line 0 is no NONE", x.chosen(), 0);
        down(x, 0);
        Check.due("none again", x.chosen(), NONE);
        x.line(0, Kinds.WAY, Kinds.RISE);
        up(x, 0);
        x.take();
        Check.due("up, but taken", x.chosen(), NONE);
    }

    /** Promise 12: "by rise or change it is not pending any more: which one". */
    private static void takeByEachWay() {
        for (int way = 0; way <= 2; way++) {
            SystemParts x = serials(0, 15);
            x.line(0, Kinds.WAY, way);
            x.line(15, Kinds.WAY, way);
            up(x, 0);
            up(x, 1);
            Check.due("the lowest", x.take(), 0);
            Check.due("it is up, way " + way, x.asks(0), way == 0 ? 3 : 1);
            Check.due("the other one is pending", x.asks(15), 3);
            Check.due("the next, way " + way, x.take(), way == 0 ? 0 : 15);
            Check.due("and then, way " + way, x.take(), way == 0 ? 0 : NONE);
            Check.due("a take takes no step", x.count(0), 2);
        }
    }

    /** "or NONE": nothing is taken, nor what is hidden. */
    private static void takeOfNone() {
        SystemParts x = serials(3);
        Check.due("nothing", x.take(), NONE);
        x.line(3, Kinds.WAY, Kinds.RISE);
        x.line(3, Kinds.HIDDEN, 1);
        up(x, 0);
        Check.due("it is hidden", x.take(), NONE);
        Check.due("it is pending still", x.asks(3), 3);
        x.line(3, Kinds.HIDDEN, 0);
        Check.due("it is taken now", x.take(), 3);
        Check.due("nothing", x.take(), NONE);
    }

    private static void aNewRiseBehindATake() {
        for (int way = 1; way <= 2; way++) {
            SystemParts x = serials(3);
            x.line(3, Kinds.WAY, way);
            for (int i = 0; i < 3; i++) {
                up(x, 0);
                Check.due("a new rise", x.asks(3), 3);
                Check.due("taken", x.take(), 3);
                down(x, 0);
                Check.due("down, way " + way, x.take(), way == 2 ? 3 : NONE);
            }
        }
    }
}

import java.util.List;

/** The boundary cases of a reset: what is as at first and what stays (Terms, and promise 13). */
final class EdgesOfResetTest {
    private static final int RESETTER = 1000;
    private static final int LINE = 4;

    /** How a reset comes about; both must leave the same, but for the cause and the time. */
    private enum How {
        CALL, TIMER;

        void reset(SystemParts x) {
            if (this == CALL) {
                x.reset();
            } else {
                x.write(RESETTER + 2, 9);
                Check.due("the timer resets", x.step(1), true);
            }
        }
    }

    public static void main(String[] args) {
        causes();
        aNewObject();
        for (How how : How.values()) {
            registers(how);
            windowsAndRows(how);
            whatIsBeingSent(how);
            whatIsWorkedAt(how);
            comeAndGoneNumbers(how);
            counts(how);
            pendingAndUp(how);
            settingsStay(how);
            theMapStays(how);
            storeAndFixedStay(how);
            theTimeStays(how);
            twice(how);
        }
        bothLeaveTheSame();
        Check.end();
    }

    /** The part under test, from place 0 on, and ahead of it a TIMER that a write of its mode makes reset all. */
    private static SystemParts with(int kind) {
        SystemParts x = new SystemParts();
        x.part(Kinds.TIMER, RESETTER, 0, 15, 0);
        x.part(kind, 0, 4, LINE, 0);
        x.write(RESETTER + 1, 1);
        return x;
    }

    /** "The CAUSE of the last one is kept: 0 none yet, 1 by reset(), 2 by a timer"; "Resets all: the cause before". */
    private static void causes() {
        SystemParts x = with(Kinds.STORE);
        Check.due("none yet", x.count(5), 0);
        How.TIMER.reset(x);
        Check.due("by a timer", x.count(5), 2);
        Check.due("the cause before", x.reset(), 2);
        Check.due("by reset()", x.count(5), 1);
        Check.due("the cause before", x.reset(), 1);
        x.write(RESETTER + 1, 1);
        How.TIMER.reset(x);
        Check.due("by a timer again", x.count(5), 2);
        x.step(1000);
        Check.due("it is kept", x.count(5), 2);
        SystemParts y = new SystemParts();
        Check.due("none before the first", y.reset(), 0);
        Check.due("one before the second", y.reset(), 1);
    }

    private static void aNewObject() {
        SystemParts x = new SystemParts();
        x.reset();
        for (int what = 0; what <= 9; what++) {
            Check.due("count(" + what + ")", x.count(what), what == 5 ? 1 : 0);
        }
        Check.due("no step", x.count(0), 0);
    }

    /** "all registers .. are as at first". */
    private static void registers(How how) {
        SystemParts x = with(Kinds.TIMER);
        x.write(1, 2);
        x.write(2, 7);
        x.step(5);
        how.reset(x);
        for (int i = 0; i < 4; i++) {
            Check.due("TIMER " + i, x.read(i), 0);
        }
        for (int i = 0; i < 4; i++) {
            Check.due("the other TIMER " + i, x.read(RESETTER + i), 0);
        }
        SystemParts y = with(Kinds.SERIAL);
        y.write(2, 3);
        how.reset(y);
        Check.due("SERIAL's mode", y.read(2), 0);
        SystemParts z = with(Kinds.ROWS);
        z.write(0, 7);
        z.write(1, 1);
        z.step(10);
        how.reset(z);
        Check.due("ROWS' row", z.read(0), 0);
        Check.due("ROWS' work", z.read(1), 0);
        Check.due("ROWS' DONE", z.read(2), 0);
    }

    /** "windows .. are as at first; .. ROWS' rows .. stay": the first and the last of each. */
    private static void windowsAndRows(How how) {
        SystemParts x = with(Kinds.ROWS);
        for (int row : new int[] {0, 7}) {
            x.write(0, row);
            x.write(3, 100 + row);
            x.write(10, 200 + row);
            x.write(1, 2);
            x.step(10);
        }
        how.reset(x);
        for (int i = 3; i <= 10; i++) {
            Check.due("the window", x.read(i), 0);
        }
        for (int row : new int[] {0, 7}) {
            x.write(0, row);
            x.write(1, 1);
            x.step(10);
            Check.due("the first of row " + row, x.read(3), 100 + row);
            Check.due("the last of row " + row, x.read(10), 200 + row);
        }
    }

    /** "what is being sent": from the first step on to the last but one it is gone, behind the last one it is out. */
    private static void whatIsBeingSent(How how) {
        int own = how == How.TIMER ? 2 : 0;
        for (int steps = own; steps <= 4; steps++) {
            SystemParts x = with(Kinds.SERIAL);
            x.write(0, 9);
            if (steps > own) {
                x.step(steps - own);
            }
            how.reset(x);
            Check.due("none is being sent", x.read(1), 2);
            x.step(10);
            Check.due("none went out", x.count(9), 0);
            x.write(0, 8);
            x.step(3);
            Check.due("a new one takes four steps", x.count(9), 0);
            x.step(1);
            Check.due("a new one takes four steps", x.sent(1, 0), 8);
        }
    }

    /** "or worked at": nine of ten steps are none. */
    private static void whatIsWorkedAt(How how) {
        int own = how == How.TIMER ? 2 : 0;
        for (int steps = 8; steps <= 10; steps++) {
            SystemParts x = with(Kinds.ROWS);
            x.write(3, 5);
            x.write(1, 2);
            x.step(steps - own);
            how.reset(x);
            Check.due("it works at nothing", x.read(1), 0);
            x.write(3, 6);
            Check.due("the window is free", x.read(3), 6);
            x.step(10);
            Check.due("nothing is done", x.read(2), 0);
            x.write(1, 1);
            x.step(9);
            Check.due("new work takes ten steps", x.asks(LINE), 0);
            x.step(1);
            Check.due("new work takes ten steps", x.asks(LINE), 3);
            boolean written = how == How.CALL && steps == 10;
            Check.due("behind " + steps + " steps, " + how, x.read(3), written ? 5 : 0);
        }
    }

    /** "come and gone numbers": all 32 of both. */
    private static void comeAndGoneNumbers(How how) {
        SystemParts x = with(Kinds.SERIAL);
        for (int i = 1; i <= 32; i++) {
            x.receive(1, i);
            x.write(0, i);
            x.step(4);
        }
        Check.due("gone ahead of it", x.sent(1, 31), 32);
        how.reset(x);
        Check.due("come", x.count(8), 0);
        Check.due("gone", x.count(9), 0);
        Check.outOfBounds("gone", () -> x.sent(1, 0));
        Check.due("nothing to be read", x.read(0), 0);
        for (int i = 1; i <= 32; i++) {
            Check.due("there is room for 32", x.receive(1, 100 + i), i);
        }
        Check.unsupported("and no more", () -> x.receive(1, 1));
        for (int i = 1; i <= 32; i++) {
            Check.due("the new ones", x.read(0), 100 + i);
        }
        x.write(0, 77);
        x.step(4);
        Check.due("the first that went out since", x.sent(1, 0), 77);
        Check.outOfBounds("and no other", () -> x.sent(1, 1));
    }

    /** "counts (steps, too)". */
    private static void counts(How how) {
        SystemParts x = with(Kinds.COUNTS);
        x.step(7);
        x.read(0);
        Check.fault("a fault", () -> x.read(500));
        how.reset(x);
        for (int what = 2; what <= 4; what++) {
            Check.due("count(" + what + ")", x.count(what), 0);
        }
        Check.due("steps", x.read(0), 1);
        Check.due("reads", x.read(1), 2);
        Check.due("writes", x.read(2), 0);
        Check.due("faults", x.read(3), 0);
    }

    /** "pending and up of lines are as at first": in each way, up and down; and no line has changed by it. */
    private static void pendingAndUp(How how) {
        for (int way = 0; way <= 2; way++) {
            for (int state = 0; state <= 2; state++) {
                SystemParts x = with(Kinds.SERIAL);
                x.line(LINE, Kinds.WAY, way);
                x.write(2, 2);
                if (state == 1) {
                    x.take();
                } else if (state == 2) {
                    x.write(2, 0);
                }
                how.reset(x);
                Check.due("neither up nor pending", x.asks(LINE), 0);
                Check.due("none up", x.count(6), 0);
                Check.due("none pending", x.count(7), 0);
                Check.due("none chosen", x.chosen(), SystemParts.NONE);
                x.step(1);
                Check.due("nor behind the next step", x.asks(LINE), 0);
                x.write(2, 2);
                Check.due("it goes up as at first", x.asks(LINE), 3);
            }
        }
    }

    /** "ranks, ways, hidden ones .. stay": the first line's and the last one's. */
    private static void settingsStay(How how) {
        SystemParts x = with(Kinds.STORE);
        for (int line : new int[] {0, 15}) {
            x.line(line, Kinds.WAY, 2);
            x.line(line, Kinds.RANK, 15);
            x.line(line, Kinds.HIDDEN, 1);
        }
        how.reset(x);
        for (int line : new int[] {0, 15}) {
            Check.due("a way", x.line(line, Kinds.WAY, 0), 2);
            Check.due("a rank", x.line(line, Kinds.RANK, 0), 15);
            Check.due("a hidden one", x.line(line, Kinds.HIDDEN, 0), 1);
        }
        Check.due("one that was as at first", x.line(1, Kinds.RANK, 0), 0);
    }

    /** "the map .. stay": the parts, their places, lines and waits. */
    private static void theMapStays(How how) {
        SystemParts x = with(Kinds.SERIAL);
        x.part(Kinds.STORE, 100, 1, 0, 7);
        how.reset(x);
        Check.due("parts", x.count(1), 3);
        Check.refusedArgument("their places", () -> x.part(Kinds.STORE, 2, 1, 0, 0));
        Check.due("waits", x.write(100, 1), 8);
        x.write(2, 2);
        Check.due("a line", x.count(6), 1 << LINE);
        Check.due("the next part's number", x.part(Kinds.STORE, 3, 1, 0, 0), 3);
    }

    /** "STORE, FIXED .. stay": the first place and the last. */
    private static void storeAndFixedStay(How how) {
        SystemParts x = with(Kinds.STORE);
        x.part(Kinds.FIXED, 100, 64, 0, 0);
        x.write(0, 1);
        x.load(3, 2);
        x.load(100, 3);
        x.load(163, 4);
        how.reset(x);
        Check.due("STORE, the first", x.read(0), 1);
        Check.due("STORE, the last", x.read(3), 2);
        Check.due("FIXED, the first", x.read(100), 3);
        Check.due("FIXED, the last", x.read(163), 4);
    }

    /** "and the time stay": a reset takes no step of its own. */
    private static void theTimeStays(How how) {
        SystemParts x = with(Kinds.STORE);
        x.step(500);
        how.reset(x);
        Check.due("the time", x.count(0), how == How.CALL ? 501 : 503);
        x.step(1);
        Check.due("it goes on", x.count(0), how == How.CALL ? 502 : 504);
    }

    private static void twice(How how) {
        SystemParts x = with(Kinds.STORE);
        x.write(0, 5);
        how.reset(x);
        int time = x.count(0);
        Check.due("the cause before", x.reset(), how == How.CALL ? 1 : 2);
        Check.due("the time", x.count(0), time);
        Check.due("the STORE", x.read(0), 5);
    }

    /** All that can be seen is the same behind both, but for the cause. */
    private static void bothLeaveTheSame() {
        SystemParts byCall = Scene.BUSY.make();
        SystemParts byTimer = Scene.BUSY.make();
        for (SystemParts x : new SystemParts[] {byCall, byTimer}) {
            x.write(Scene.TIMER_AT + 2, 0);
            x.write(Scene.TIMER_AT, 2);
            x.write(Scene.TIMER_AT + 2, x == byTimer ? 9 : 1);
        }
        Check.due("a timer without mode 8", byCall.step(1), false);
        Check.due("a timer with mode 8", byTimer.step(1), true);
        Check.due("no cause yet", byCall.reset(), 0);
        Check.same("a timer's reset", allButTheCause(byTimer), allButTheCause(byCall));
    }

    private static List<String> allButTheCause(SystemParts x) {
        List<String> answers = Seen.all(x);
        answers.removeIf(answer -> answer.startsWith("count(5)"));
        return answers;
    }
}

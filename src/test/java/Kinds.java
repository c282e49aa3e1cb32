/** The document's numbers for kinds, ways and settings, so that tests can be read. */
final class Kinds {
    static final int STORE = 0;
    static final int FIXED = 1;
    static final int TIMER = 2;
    static final int SERIAL = 3;
    static final int ROWS = 4;
    static final int COUNTS = 5;

    static final int LEVEL = 0;
    static final int RISE = 1;
    static final int CHANGE = 2;

    static final int WAY = 0;
    static final int RANK = 1;
    static final int HIDDEN = 2;

    private Kinds() {
    }

    /** Timers on lines 0, 1, 2 ..: the timer of line i lies from 10 * i on, without waits. */
    static SystemParts withTimers(int many) {
        SystemParts x = new SystemParts();
        for (int i = 0; i < many; i++) {
            x.part(TIMER, 10 * i, 0, i, 0);
        }
        return x;
    }

    /** Makes the timer of a line fire in one step and stop, so that its line goes up. */
    static void raise(SystemParts x, int line) {
        x.write(10 * line, 0);
        x.write(10 * line + 1, 1);
        x.write(10 * line + 2, 5);
        x.step(1);
    }

    static void lower(SystemParts x, int line) {
        x.write(10 * line + 3, 0);
    }
}

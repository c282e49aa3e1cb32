/** Objects in states that calls can be tried in; the same scene made twice gives twins. */
enum Scene {
    NEW, BUSY, FULL, RESET;

    static final int STORE_AT = 0;
    static final int FIXED_AT = 8;
    static final int FIXED_WAITS = 2;
    static final int TIMER_AT = 20;
    static final int SERIAL_AT = 30;
    static final int ROWS_AT = 40;
    static final int COUNTS_AT = 60;
    static final int OTHER_TIMER_AT = 70;
    static final int OTHER_SERIAL_AT = 80;
    /** Every place of every scene's parts lies ahead of this one. */
    static final int END = 100;

    static final int SERIAL = 3;
    static final int OTHER_SERIAL = 7;

    SystemParts make() {
        SystemParts x = new SystemParts();
        if (this == NEW) {
            return x;
        }
        layOut(x);
        keepBusy(x);
        if (this == FULL) {
            fillUp(x);
        }
        // The lines do not follow this one yet, so that a call that lets them follow shows.
        x.receive(OTHER_SERIAL, 6);
        if (this == RESET) {
            x.reset();
        }
        return x;
    }

    private static void layOut(SystemParts x) {
        x.part(Kinds.STORE, STORE_AT, 8, 0, 1);
        x.part(Kinds.FIXED, FIXED_AT, 4, 1, FIXED_WAITS);
        x.part(Kinds.TIMER, TIMER_AT, 0, 2, 0);
        x.part(Kinds.SERIAL, SERIAL_AT, 0, 3, 3);
        x.part(Kinds.ROWS, ROWS_AT, 0, 4, 0);
        x.part(Kinds.COUNTS, COUNTS_AT, 0, 5, 0);
        x.part(Kinds.TIMER, OTHER_TIMER_AT, 0, 15, 0);
        x.part(Kinds.SERIAL, OTHER_SERIAL_AT, 0, 3, 0);
    }

    /** Everything is amidst something: a number is being sent, rows are at work, lines are pending. */
    private static void keepBusy(SystemParts x) {
        x.write(STORE_AT + 7, -7);
        x.load(FIXED_AT + 3, 33);
        x.line(2, Kinds.WAY, Kinds.RISE);
        x.line(15, Kinds.WAY, Kinds.CHANGE);
        x.line(15, Kinds.RANK, 15);
        x.line(4, Kinds.HIDDEN, 1);
        x.write(OTHER_TIMER_AT + 1, 1);
        x.write(OTHER_TIMER_AT + 2, 5);
        x.step(1);
        x.write(ROWS_AT + 3, 100);
        x.write(ROWS_AT, 7);
        x.write(ROWS_AT + 1, 2);
        x.step(10);
        x.write(ROWS_AT + 10, 101);
        x.write(ROWS_AT + 1, 2);
        x.write(TIMER_AT + 1, 3);
        x.write(TIMER_AT + 2, 7);
        x.write(OTHER_SERIAL_AT + 2, 1);
        x.write(OTHER_SERIAL_AT, 9);
        x.receive(OTHER_SERIAL, 5);
        x.write(SERIAL_AT, 8);
        x.read(OTHER_SERIAL_AT);
    }

    /** Twelve parts, 32 numbers that came in, and more than 32 that went out. */
    private static void fillUp(SystemParts x) {
        for (int i = 0; i < 4; i++) {
            x.part(Kinds.STORE, OTHER_SERIAL_AT + 10 + i, 1, 0, 0);
        }
        for (int i = 1; i <= 32; i++) {
            x.receive(SERIAL, i);
        }
        for (int i = 1; i <= 35; i++) {
            x.write(SERIAL_AT, i);
        }
    }
}

import java.util.ArrayList;
import java.util.List;

/** All that can be seen of an object made by a Scene. Looking changes the object, so it comes last. */
final class Seen {
    private final SystemParts x;
    private final int faultsLess;
    private final List<String> answers = new ArrayList<>();

    private Seen(SystemParts x, int faultsLess) {
        this.x = x;
        this.faultsLess = faultsLess;
    }

    static List<String> all(SystemParts x) {
        return allBut(0, x);
    }

    /** The same, with so many faults taken off where faults are told. */
    static List<String> allBut(int faults, SystemParts x) {
        Seen seen = new Seen(x, faults);
        seen.counts();
        seen.lines();
        seen.numbersSent();
        seen.registers();
        seen.numbersThatCame();
        seen.rows();
        seen.settings();
        seen.counts();
        return seen.answers;
    }

    private void note(String what, Check.Call call) {
        String answer;
        try {
            answer = Long.toString(call.answer());
        } catch (RuntimeException e) {
            answer = e.getClass().getSimpleName();
        }
        answers.add(what + " = " + answer);
    }

    private void counts() {
        for (int what = 0; what <= 9; what++) {
            int w = what;
            note("count(" + w + ")", () -> x.count(w) - (w == 4 ? faultsLess : 0));
        }
    }

    private void lines() {
        for (int line = 0; line < 16; line++) {
            int l = line;
            note("asks(" + l + ")", () -> x.asks(l));
        }
        note("chosen()", x::chosen);
    }

    private void numbersSent() {
        for (int k = 0; k <= 32; k++) {
            int at = k;
            note("sent(3, " + at + ")", () -> x.sent(Scene.SERIAL, at));
        }
        note("sent(7, 0)", () -> x.sent(Scene.OTHER_SERIAL, 0));
    }

    private void registers() {
        for (int place = 0; place < Scene.END; place++) {
            int p = place;
            int less = p == Scene.COUNTS_AT + 3 ? faultsLess : 0;
            note("read(" + p + ")", () -> x.read(p) - less);
        }
        note("read(65535)", () -> x.read(65535));
    }

    private void numbersThatCame() {
        for (int i = 0; i < 32; i++) {
            note("read of the SERIAL", () -> x.read(Scene.SERIAL_AT));
        }
    }

    private void rows() {
        for (int row : new int[] {0, 7}) {
            note("row", () -> x.write(Scene.ROWS_AT, row));
            note("work", () -> x.write(Scene.ROWS_AT + 1, 1));
            x.step(10);
            for (int i = 3; i <= 10; i++) {
                int p = Scene.ROWS_AT + i;
                note("row " + row, () -> x.read(p));
            }
        }
    }

    private void settings() {
        for (int line = 0; line < 16; line++) {
            for (int what = 0; what <= 2; what++) {
                int l = line;
                int w = what;
                note("line(" + l + ", " + w + ", 0)", () -> x.line(l, w, 0));
            }
        }
    }
}

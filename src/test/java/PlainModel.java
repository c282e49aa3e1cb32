import java.util.ArrayDeque;
import java.util.ArrayList;
import java.util.Arrays;
import java.util.Deque;
import java.util.HashMap;
import java.util.List;
import java.util.Map;

/**
 * The document read a second time, by other means than the class: a table of places, lists without an end, and the
 * time at which work is over instead of steps that are left. A slip must be made twice to stay unseen by ModelTest.
 */
final class PlainModel {
    private static final int NOTHING = -1;

    /** A part of any kind; each kind uses what it needs. */
    private static final class Piece {
        final int kind;
        final int from;
        final int line;
        final int waits;
        final int[] registers;
        final int[][] rows = new int[8][8];
        final Deque<Integer> come = new ArrayDeque<>();
        final List<Integer> gone = new ArrayList<>();
        int overAt = NOTHING;
        int inHand = 0;
        int inHandRow = 0;

        Piece(int kind, int from, int length, int line, int waits) {
            this.kind = kind;
            this.from = from;
            this.line = line;
            this.waits = waits;
            this.registers = new int[length];
        }

        boolean is(int bit) {
            return (registers[2] & bit) != 0;
        }

        boolean asks() {
            switch (kind) {
                case Kinds.TIMER: return is(4) && registers[3] == 1;
                case Kinds.SERIAL: return is(1) && !come.isEmpty() || is(2) && overAt == NOTHING;
                case Kinds.ROWS: return registers[2] == 1;
                default: return false;
            }
        }

        void asAtFirst() {
            if (kind != Kinds.STORE && kind != Kinds.FIXED) {
                Arrays.fill(registers, 0);
            }
            come.clear();
            gone.clear();
            overAt = NOTHING;
            inHand = 0;
        }

        /** Whether it resets all. */
        boolean timerGoes() {
            registers[0]++;
            if (registers[0] != registers[1]) {
                return false;
            }
            registers[3] = 1;
            if (is(2)) {
                registers[0] = 0;
            } else {
                registers[2] -= 1;
            }
            return is(8);
        }

        void serialIsOver() {
            gone.add(inHand);
            overAt = NOTHING;
        }

        void rowsAreOver() {
            int[] row = rows[inHandRow];
            if (inHand == 1) {
                System.arraycopy(row, 0, registers, 3, 8);
            } else {
                System.arraycopy(registers, 3, row, 0, 8);
            }
            registers[1] = 0;
            registers[2] = 1;
            overAt = NOTHING;
            inHand = 0;
        }
    }

    private final List<Piece> pieces = new ArrayList<>();
    private final Map<Integer, Piece> places = new HashMap<>();
    private final int[] ways = new int[16];
    private final int[] ranks = new int[16];
    private final int[] hidden = new int[16];
    private final boolean[] up = new boolean[16];
    private final boolean[] kept = new boolean[16];
    private int time = 0;
    private int cause = 0;
    private int reads = 0;
    private int writes = 0;
    private int faults = 0;

    int part(int kind, int from, int size, int line, int waits) {
        refuseUnless(kind >= 0 && kind <= 5 && line >= 0 && line <= 15 && waits >= 0 && waits <= 7);
        refuseUnless(kind > 1 || size >= 1 && size <= 64);
        int length = kind <= 1 ? size : new int[] {4, 3, 11, 4}[kind - 2];
        for (long place = from; place < (long) from + length; place++) {
            refuseUnless(place >= 0 && place <= 65535 && !places.containsKey((int) place));
        }
        if (pieces.size() == 12) {
            throw new UnsupportedOperationException();
        }
        Piece piece = new Piece(kind, from, length, line, waits);
        for (int place = from; place < from + length; place++) {
            places.put(place, piece);
        }
        pieces.add(piece);
        return pieces.size() - 1;
    }

    /** How many places the part has; for a test that looks for places to try. */
    int lengthOf(int part) {
        return pieces.get(part).registers.length;
    }

    int load(int place, int v) {
        Piece piece = places.get(place);
        refuseUnless(piece != null && piece.kind <= 1);
        int before = piece.registers[place - piece.from];
        piece.registers[place - piece.from] = v;
        return before;
    }

    int read(int place) {
        Piece piece = reached(place);
        reads++;
        countInCounts(1);
        int answer = told(piece, place - piece.from);
        linesFollow();
        return answer;
    }

    int write(int place, int v) {
        Piece piece = reached(place);
        if (piece.kind == Kinds.FIXED) {
            throw newFault();
        }
        writes++;
        countInCounts(2);
        written(piece, place - piece.from, v);
        linesFollow();
        return 1 + piece.waits;
    }

    boolean step(int n) {
        refuseUnless(n >= 1 && n <= 1000);
        boolean wasReset = false;
        for (int i = 0; i < n; i++) {
            wasReset |= oneStep();
        }
        return wasReset;
    }

    int receive(int part, int v) {
        Piece serial = serial(part);
        if (serial.come.size() == 32) {
            throw new UnsupportedOperationException();
        }
        serial.come.addLast(v);
        return serial.come.size();
    }

    int sent(int part, int k) {
        List<Integer> gone = serial(part).gone;
        int older = Math.max(0, gone.size() - 32);
        if (k < 0 || k >= gone.size() - older) {
            throw new IndexOutOfBoundsException();
        }
        return gone.get(older + k);
    }

    int line(int line, int what, int v) {
        boundsUnless(line >= 0 && line <= 15);
        refuseUnless(what >= 0 && what <= 2 && v >= 0 && v <= new int[] {2, 15, 1}[what]);
        int[] numbers = what == Kinds.WAY ? ways : what == Kinds.RANK ? ranks : hidden;
        int before = numbers[line];
        numbers[line] = v;
        if (what == Kinds.WAY && v != before) {
            kept[line] = false;
        }
        return before;
    }

    int asks(int line) {
        boundsUnless(line >= 0 && line <= 15);
        return (up[line] ? 1 : 0) + (isPending(line) ? 2 : 0);
    }

    int chosen() {
        for (int rank = 15; rank >= 0; rank--) {
            for (int line = 0; line <= 15; line++) {
                if (ranks[line] == rank && hidden[line] == 0 && isPending(line)) {
                    return line;
                }
            }
        }
        return SystemParts.NONE;
    }

    int take() {
        int line = chosen();
        if (line != SystemParts.NONE) {
            kept[line] = false;
        }
        return line;
    }

    int reset() {
        int before = cause;
        resetBy(1);
        return before;
    }

    int count(int what) {
        switch (what) {
            case 0: return time;
            case 1: return pieces.size();
            case 2: return reads;
            case 3: return writes;
            case 4: return faults;
            case 5: return cause;
            case 6: return linesThat(1);
            case 7: return linesThat(2);
            case 8: return pieces.stream().mapToInt(piece -> piece.come.size()).sum();
            case 9: return pieces.stream().mapToInt(piece -> piece.gone.size()).sum();
            default: return SystemParts.NONE;
        }
    }

    private static void refuseUnless(boolean good) {
        if (!good) {
            throw new IllegalArgumentException();
        }
    }

    private static void boundsUnless(boolean good) {
        if (!good) {
            throw new IndexOutOfBoundsException();
        }
    }

    private IllegalStateException newFault() {
        faults++;
        countInCounts(3);
        return new IllegalStateException();
    }

    private void countInCounts(int register) {
        for (Piece piece : pieces) {
            if (piece.kind == Kinds.COUNTS) {
                piece.registers[register]++;
            }
        }
    }

    private Piece reached(int place) {
        boundsUnless(place >= 0 && place <= 65535);
        Piece piece = places.get(place);
        if (piece == null) {
            throw newFault();
        }
        step(1 + piece.waits);
        return piece;
    }

    private Piece serial(int part) {
        refuseUnless(part >= 0 && part < pieces.size() && pieces.get(part).kind == Kinds.SERIAL);
        return pieces.get(part);
    }

    private static int told(Piece piece, int register) {
        if (piece.kind == Kinds.SERIAL && register == 0) {
            return piece.come.isEmpty() ? 0 : piece.come.removeFirst();
        }
        if (piece.kind == Kinds.SERIAL && register == 1) {
            return (piece.come.isEmpty() ? 0 : 1) + (piece.overAt == NOTHING ? 2 : 0);
        }
        return piece.registers[register];
    }

    private void written(Piece piece, int register, int v) {
        switch (piece.kind) {
            case Kinds.STORE: piece.registers[register] = v; break;
            case Kinds.TIMER: piece.registers[register] = register == 2 ? v & 15 : register == 3 ? 0 : v; break;
            case Kinds.SERIAL: writtenToSerial(piece, register, v); break;
            case Kinds.ROWS: writtenToRows(piece, register, v); break;
            default: piece.registers[register] = 0; break;
        }
    }

    private void writtenToSerial(Piece piece, int register, int v) {
        if (register == 0 && piece.overAt == NOTHING) {
            piece.inHand = v & 255;
            piece.overAt = time + 4;
        }
        if (register == 2) {
            piece.registers[2] = v & 3;
        }
    }

    private void writtenToRows(Piece piece, int register, int v) {
        boolean works = piece.overAt != NOTHING;
        if (register == 0) {
            piece.registers[0] = v & 7;
        } else if (register == 2) {
            piece.registers[2] = 0;
        } else if (register >= 3 && !works) {
            piece.registers[register] = v;
        } else if (register == 1 && !works && (v == 1 || v == 2)) {
            piece.registers[1] = v;
            piece.inHand = v;
            piece.inHandRow = piece.registers[0];
            piece.overAt = time + 10;
        }
    }

    private boolean oneStep() {
        time++;
        countInCounts(0);
        for (Piece piece : pieces) {
            if (piece.kind == Kinds.TIMER && piece.is(1) && piece.timerGoes()) {
                resetBy(2);
                return true;
            }
            if (piece.kind == Kinds.SERIAL && piece.overAt == time) {
                piece.serialIsOver();
            }
            if (piece.kind == Kinds.ROWS && piece.overAt == time) {
                piece.rowsAreOver();
            }
        }
        linesFollow();
        return false;
    }

    private void linesFollow() {
        for (int line = 0; line <= 15; line++) {
            boolean before = up[line];
            up[line] = false;
            for (Piece piece : pieces) {
                up[line] |= piece.line == line && piece.asks();
            }
            boolean rose = up[line] && !before;
            boolean fell = before && !up[line];
            kept[line] |= ways[line] >= Kinds.RISE && rose || ways[line] == Kinds.CHANGE && fell;
        }
    }

    private boolean isPending(int line) {
        return ways[line] == Kinds.LEVEL ? up[line] : kept[line];
    }

    private int linesThat(int bit) {
        int bits = 0;
        for (int line = 0; line <= 15; line++) {
            bits |= (asks(line) & bit) != 0 ? 1 << line : 0;
        }
        return bits;
    }

    private void resetBy(int newCause) {
        cause = newCause;
        reads = 0;
        writes = 0;
        faults = 0;
        Arrays.fill(up, false);
        Arrays.fill(kept, false);
        for (Piece piece : pieces) {
            piece.asAtFirst();
        }
    }
}

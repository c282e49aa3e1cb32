/** What stands around a machine: places with parts behind them, and the lines by which the parts ask. */
public final class SystemParts {
    public static final int NONE = -1;

    private static final int PLACES = 65536;
    private static final int MOST_PARTS = 12;
    private static final int MOST_WAITS = 7;
    private static final int MOST_CELLS = 64;
    private static final int MOST_STEPS = 1000;

    private static final int STORE = 0;
    private static final int FIXED = 1;
    private static final int TIMER = 2;
    private static final int SERIAL = 3;
    private static final int ROWS = 4;
    private static final int COUNTS = 5;

    /* What is counted; the numbers are also the registers of a COUNTS. */
    private static final int STEPS_DONE = 0;
    private static final int READS_DONE = 1;
    private static final int WRITES_DONE = 2;
    private static final int FAULTS_MET = 3;
    private static final int TALLIES = 4;

    private static final int CAUSE_CALL = 1;
    private static final int CAUSE_TIMER = 2;

    private final Part[] parts = new Part[MOST_PARTS];
    private final Lines lines = new Lines();
    private final int[] tally = new int[TALLIES];
    private int partCount = 0;
    private int time = 0;
    private int cause = 0;

    public SystemParts() {
    }

    public int part(int kind, int from, int size, int line, int waits)
            throws IllegalArgumentException, UnsupportedOperationException {
        int length = lengthOf(kind, size);
        boolean fits = length > 0 && isLine(line) && waits >= 0 && waits <= MOST_WAITS && isFree(from, length);
        if (!fits) {
            throw new IllegalArgumentException("no such part can lie there");
        }
        if (partCount < 0 || partCount >= parts.length) {
            throw new UnsupportedOperationException("there are twelve parts");
        }
        int number = partCount;
        parts[number] = newPart(kind, new Seat(from, length, line, waits));
        partCount = number + 1;
        return number;
    }

    public int load(int place, int v) throws IllegalArgumentException {
        if (partWith(place) instanceof Cells cells) {
            int register = place - cells.seat.from;
            int before = cells.look(register);
            cells.put(register, v);
            return before;
        }
        throw new IllegalArgumentException("no STORE or FIXED has the place");
    }

    public int read(int place) throws IndexOutOfBoundsException, IllegalStateException {
        Part part = reachPart(place);
        // A COUNTS tells of the very read that asks it, so the tally comes first.
        tallyOne(READS_DONE);
        int answer = part.look(place - part.seat.from);
        lines.follow(askingLines());
        return answer;
    }

    public int write(int place, int v) throws IndexOutOfBoundsException, IllegalStateException {
        Part part = reachPart(place);
        if (part.refusesWrites()) {
            tallyOne(FAULTS_MET);
            throw new IllegalStateException("a FIXED is not written");
        }
        // A COUNTS that is written ends at 0, so the tally of this write comes first.
        tallyOne(WRITES_DONE);
        part.put(place - part.seat.from, v);
        lines.follow(askingLines());
        return part.seat.accessSteps();
    }

    public boolean step(int n) throws IllegalArgumentException {
        if (n < 1 || n > MOST_STEPS) {
            throw new IllegalArgumentException("steps are 1 to 1000");
        }
        return runSteps(n);
    }

    public int receive(int part, int v) throws IllegalArgumentException, UnsupportedOperationException {
        Serial serial = serialAt(part);
        if (serial.isFull()) {
            throw new UnsupportedOperationException("32 numbers are there to be read");
        }
        // The lines stay as they are: they follow only behind steps, reads and writes.
        return serial.accept(v);
    }

    public int sent(int part, int k) throws IllegalArgumentException, IndexOutOfBoundsException {
        Serial serial = serialAt(part);
        if (k < 0 || k >= serial.goneKept()) {
            throw new IndexOutOfBoundsException("no such number went out");
        }
        return serial.goneAt(k);
    }

    public int line(int line, int what, int v) throws IndexOutOfBoundsException, IllegalArgumentException {
        if (!isLine(line)) {
            throw new IndexOutOfBoundsException("no such line");
        }
        if (v < 0 || v > Lines.greatest(what)) {
            throw new IllegalArgumentException("a line has no such setting");
        }
        return lines.change(line, what, v);
    }

    public int asks(int line) throws IndexOutOfBoundsException {
        if (!isLine(line)) {
            throw new IndexOutOfBoundsException("no such line");
        }
        int isUp = lines.up >> line & 1;
        int isPending = lines.pending() >> line & 1;
        return isUp + 2 * isPending;
    }

    public int chosen() {
        return lines.best();
    }

    public int take() {
        int line = lines.best();
        if (line != NONE) {
            lines.forget(line);
        }
        return line;
    }

    public int reset() {
        int before = cause;
        resetAll(CAUSE_CALL);
        return before;
    }

    public int count(int what) {
        switch (what) {
            case 0: return time;
            case 1: return partCount;
            case 2: return tally[READS_DONE];
            case 3: return tally[WRITES_DONE];
            case 4: return tally[FAULTS_MET];
            case 5: return cause;
            case 6: return lines.up;
            case 7: return lines.pending();
            case 8: return allWaiting();
            case 9: return allGone();
            default: return NONE;
        }
    }

    private static boolean isPlace(int place) {
        return place >= 0 && place < PLACES;
    }

    private static boolean isLine(int line) {
        return line >= 0 && line < Lines.HOW_MANY;
    }

    /** How many places a part takes; 0 where there is no such part. */
    private static int lengthOf(int kind, int size) {
        switch (kind) {
            case STORE:
            case FIXED: return size >= 1 && size <= MOST_CELLS ? size : 0;
            case TIMER: return Timer.REGISTERS;
            case SERIAL: return Serial.REGISTERS;
            case ROWS: return Rows.REGISTERS;
            case COUNTS: return TALLIES;
            default: return 0;
        }
    }

    private static Part newPart(int kind, Seat seat) {
        switch (kind) {
            case STORE: return new Cells(seat, false);
            case FIXED: return new Cells(seat, true);
            case TIMER: return new Timer(seat);
            case SERIAL: return new Serial(seat);
            case ROWS: return new Rows(seat);
            default: return new Counts(seat);
        }
    }

    private boolean isFree(int from, int length) {
        if (!isPlace(from) || length > PLACES - from) {
            return false;
        }
        for (int i = 0; i < parts.length; i++) {
            Part part = parts[i];
            if (part != null && part.seat.meets(from, length)) {
                return false;
            }
        }
        return true;
    }

    private Part partWith(int place) {
        for (int i = 0; i < parts.length; i++) {
            Part part = parts[i];
            if (part != null && part.seat.meets(place, 1)) {
                return part;
            }
        }
        return null;
    }

    /** The part behind a place, when the steps that reaching it takes are done. */
    private Part reachPart(int place) {
        if (!isPlace(place)) {
            throw new IndexOutOfBoundsException("no such place");
        }
        Part part = partWith(place);
        if (part == null) {
            tallyOne(FAULTS_MET);
            throw new IllegalStateException("no part has the place");
        }
        runSteps(part.seat.accessSteps());
        return part;
    }

    private Serial serialAt(int number) {
        if (number >= 0 && number < parts.length && parts[number] instanceof Serial serial) {
            return serial;
        }
        throw new IllegalArgumentException("the part is no SERIAL");
    }

    private boolean runSteps(int n) {
        boolean wasReset = false;
        for (int i = 0; i < n; i++) {
            if (oneStep()) {
                wasReset = true;
            }
        }
        return wasReset;
    }

    /** Whether the step ended in a reset. */
    private boolean oneStep() {
        time++;
        for (int i = 0; i < parts.length; i++) {
            Part part = parts[i];
            if (part != null && part.goOn()) {
                resetAll(CAUSE_TIMER);
                return true;
            }
        }
        lines.follow(askingLines());
        return false;
    }

    private int askingLines() {
        int asking = 0;
        for (int i = 0; i < parts.length; i++) {
            Part part = parts[i];
            if (part != null && part.wantsAttention()) {
                asking |= 1 << part.seat.line;
            }
        }
        return asking;
    }

    private void tallyOne(int what) {
        if (what < 0 || what >= tally.length) {
            return;
        }
        tally[what]++;
        for (int i = 0; i < parts.length; i++) {
            if (parts[i] instanceof Counts counts) {
                counts.add(what);
            }
        }
    }

    private void resetAll(int newCause) {
        cause = newCause;
        for (int i = 0; i < tally.length; i++) {
            tally[i] = 0;
        }
        for (int i = 0; i < parts.length; i++) {
            Part part = parts[i];
            if (part != null) {
                part.beginAnew();
            }
        }
        lines.allDown();
    }

    private int allWaiting() {
        int sum = 0;
        for (int i = 0; i < parts.length; i++) {
            if (parts[i] instanceof Serial serial) {
                sum += serial.waiting;
            }
        }
        return sum;
    }

    private int allGone() {
        int sum = 0;
        for (int i = 0; i < parts.length; i++) {
            if (parts[i] instanceof Serial serial) {
                sum += serial.gone;
            }
        }
        return sum;
    }

    /** Where a part lies in the map, and how it is tied to the machine. */
    private static final class Seat {
        final int from;
        final int length;
        final int line;
        final int waits;

        Seat(int from, int length, int line, int waits) {
            this.from = from;
            this.length = length;
            this.line = line;
            this.waits = waits;
        }

        int accessSteps() {
            return 1 + waits;
        }

        /** The comparison of differences holds for every first, even one that is no place. */
        boolean meets(int first, int many) {
            return first >= from ? first - from < length : first >= 0 && from - first < many;
        }
    }

    private abstract static class Part {
        final Seat seat;

        Part(Seat seat) {
            this.seat = seat;
        }

        /** What a read of the register answers, with what the read itself changes. */
        abstract int look(int register);

        abstract void put(int register, int v);

        boolean refusesWrites() {
            return false;
        }

        /** The part's share of a step: whether all is to be reset. */
        boolean goOn() {
            return false;
        }

        boolean wantsAttention() {
            return false;
        }

        /** A reset, as far as it touches the part: a STORE and a FIXED keep all. */
        void beginAnew() {
        }
    }

    /** A STORE or a FIXED. */
    private static final class Cells extends Part {
        private final int[] cells;
        private final boolean fixed;

        Cells(Seat seat, boolean fixed) {
            super(seat);
            this.cells = new int[seat.length >= 0 ? seat.length : 0];
            this.fixed = fixed;
        }

        int look(int register) {
            return register >= 0 && register < cells.length ? cells[register] : 0;
        }

        void put(int register, int v) {
            if (register >= 0 && register < cells.length) {
                cells[register] = v;
            }
        }

        boolean refusesWrites() {
            return fixed;
        }
    }

    private static final class Timer extends Part {
        static final int REGISTERS = 4;
        private static final int GOES = 1;
        private static final int ANEW = 2;
        private static final int ASKS = 4;
        private static final int RESETS = 8;
        private static final int MODE_BITS = 15;

        private int reached = 0;
        private int limit = 0;
        private int mode = 0;
        private int fired = 0;

        Timer(Seat seat) {
            super(seat);
        }

        int look(int register) {
            switch (register) {
                case 0: return reached;
                case 1: return limit;
                case 2: return mode;
                case 3: return fired;
                default: return 0;
            }
        }

        void put(int register, int v) {
            switch (register) {
                case 0: reached = v; break;
                case 1: limit = v; break;
                case 2: mode = v & MODE_BITS; break;
                case 3: fired = 0; break;
                default: break;
            }
        }

        boolean goOn() {
            if ((mode & GOES) == 0) {
                return false;
            }
            reached++;
            if (reached != limit) {
                return false;
            }
            fired = 1;
            if ((mode & ANEW) != 0) {
                reached = 0;
            } else {
                mode &= ~GOES;
            }
            return (mode & RESETS) != 0;
        }

        boolean wantsAttention() {
            return (mode & ASKS) != 0 && fired == 1;
        }

        void beginAnew() {
            reached = 0;
            limit = 0;
            mode = 0;
            fired = 0;
        }
    }

    private static final class Serial extends Part {
        static final int REGISTERS = 3;
        private static final int KEPT = 32;
        /** KEPT is a power of two, so this brings every position into its ring. */
        private static final int RING = KEPT - 1;
        private static final int SENDING_STEPS = 4;
        private static final int ASKS_TO_READ = 1;
        private static final int ASKS_TO_SEND = 2;
        private static final int MODE_BITS = 3;
        private static final int BYTE_BITS = 255;

        private final int[] come = new int[KEPT];
        private int firstCome = 0;
        private int waiting = 0;
        private final int[] out = new int[KEPT];
        private int gone = 0;
        private int sending = 0;
        private int stepsLeft = 0;
        private int mode = 0;

        Serial(Seat seat) {
            super(seat);
        }

        boolean isFull() {
            return waiting >= KEPT;
        }

        int accept(int v) {
            come[(firstCome + waiting) & RING] = v;
            waiting++;
            return waiting;
        }

        int goneKept() {
            return Math.min(gone, KEPT);
        }

        int goneAt(int k) {
            return out[(gone - goneKept() + k) & RING];
        }

        int look(int register) {
            switch (register) {
                case 0: return nextCome();
                case 1: return (waiting > 0 ? 1 : 0) + (stepsLeft == 0 ? 2 : 0);
                case 2: return mode;
                default: return 0;
            }
        }

        private int nextCome() {
            if (waiting <= 0) {
                return 0;
            }
            int v = come[firstCome & RING];
            firstCome = (firstCome + 1) & RING;
            waiting--;
            return v;
        }

        void put(int register, int v) {
            if (register == 0 && stepsLeft == 0) {
                sending = v & BYTE_BITS;
                stepsLeft = SENDING_STEPS;
            } else if (register == 2) {
                mode = v & MODE_BITS;
            }
        }

        boolean goOn() {
            if (stepsLeft > 0) {
                stepsLeft--;
                if (stepsLeft == 0) {
                    out[gone & RING] = sending;
                    gone++;
                }
            }
            return false;
        }

        boolean wantsAttention() {
            return (mode & ASKS_TO_READ) != 0 && waiting > 0
                    || (mode & ASKS_TO_SEND) != 0 && stepsLeft == 0;
        }

        /** The rings keep old numbers, but none of them can be reached behind counts of 0. */
        void beginAnew() {
            firstCome = 0;
            waiting = 0;
            gone = 0;
            sending = 0;
            stepsLeft = 0;
            mode = 0;
        }
    }

    private static final class Rows extends Part {
        private static final int WIDTH = 8;
        private static final int ROW_BITS = 7;
        private static final int WINDOW_FROM = 3;
        static final int REGISTERS = WINDOW_FROM + WIDTH;
        private static final int WORKING_STEPS = 10;
        private static final int READS_ROW = 1;
        private static final int WRITES_ROW = 2;

        private final int[] rows = new int[WIDTH * (ROW_BITS + 1)];
        private final int[] window = new int[WIDTH];
        private int row = 0;
        private int work = 0;
        private int workRow = 0;
        private int stepsLeft = 0;
        private int done = 0;

        Rows(Seat seat) {
            super(seat);
        }

        int look(int register) {
            switch (register) {
                case 0: return row;
                case 1: return work;
                case 2: return done;
                default: return inWindow(register) ? window[register - WINDOW_FROM] : 0;
            }
        }

        private boolean inWindow(int register) {
            return register >= WINDOW_FROM && register < REGISTERS;
        }

        void put(int register, int v) {
            switch (register) {
                case 0: row = v & ROW_BITS; break;
                case 1: begin(v); break;
                case 2: done = 0; break;
                default:
                    if (inWindow(register) && work == 0) {
                        window[register - WINDOW_FROM] = v;
                    }
                    break;
            }
        }

        private void begin(int newWork) {
            if (work != 0 || newWork != READS_ROW && newWork != WRITES_ROW) {
                return;
            }
            work = newWork;
            workRow = row;
            stepsLeft = WORKING_STEPS;
        }

        boolean goOn() {
            if (work != 0) {
                stepsLeft--;
                if (stepsLeft == 0) {
                    moveNumbers();
                    work = 0;
                    done = 1;
                }
            }
            return false;
        }

        private void moveNumbers() {
            int start = (workRow & ROW_BITS) * WIDTH;
            for (int i = 0; i < WIDTH; i++) {
                if (work == READS_ROW) {
                    window[i] = rows[start + i];
                } else {
                    rows[start + i] = window[i];
                }
            }
        }

        boolean wantsAttention() {
            return done == 1;
        }

        void beginAnew() {
            for (int i = 0; i < window.length; i++) {
                window[i] = 0;
            }
            row = 0;
            work = 0;
            workRow = 0;
            stepsLeft = 0;
            done = 0;
        }
    }

    private static final class Counts extends Part {
        private final int[] tallies = new int[TALLIES];

        Counts(Seat seat) {
            super(seat);
        }

        void add(int what) {
            if (what >= 0 && what < tallies.length) {
                tallies[what]++;
            }
        }

        int look(int register) {
            return register >= 0 && register < tallies.length ? tallies[register] : 0;
        }

        void put(int register, int v) {
            if (register >= 0 && register < tallies.length) {
                tallies[register] = 0;
            }
        }

        boolean goOn() {
            add(STEPS_DONE);
            return false;
        }

        void beginAnew() {
            for (int i = 0; i < tallies.length; i++) {
                tallies[i] = 0;
            }
        }
    }

    private static final class Lines {
        static final int HOW_MANY = 16;
        private static final int WAY = 0;
        private static final int RANK = 1;
        private static final int HIDDEN = 2;
        private static final int LEVEL = 0;
        private static final int CHANGE = 2;

        private final int[] ways = new int[HOW_MANY];
        private final int[] ranks = new int[HOW_MANY];
        private int hidden = 0;
        private int up = 0;
        /** Lines that are pending by rise or change; a LEVEL line is never among them. */
        private int kept = 0;

        /** The greatest number that a setting takes; NONE where there is no such setting. */
        static int greatest(int what) {
            switch (what) {
                case WAY: return 2;
                case RANK: return 15;
                case HIDDEN: return 1;
                default: return NONE;
            }
        }

        int change(int line, int what, int v) {
            if (line < 0 || line >= HOW_MANY) {
                return NONE;
            }
            switch (what) {
                case WAY: return changeWay(line, v);
                case RANK: return changeRank(line, v);
                default: return changeHidden(line, v);
            }
        }

        private int changeWay(int line, int v) {
            int before = ways[line];
            // Only another way ends what is pending: the same one told again is no other.
            if (v != before) {
                ways[line] = v;
                forget(line);
            }
            return before;
        }

        private int changeRank(int line, int v) {
            int before = ranks[line];
            ranks[line] = v;
            return before;
        }

        private int changeHidden(int line, int v) {
            int before = hidden >> line & 1;
            hidden = hidden & ~(1 << line) | v << line;
            return before;
        }

        void follow(int asking) {
            int changed = asking ^ up;
            if (changed == 0) {
                return;
            }
            up = asking;
            int rose = changed & asking;
            for (int i = 0; i < ways.length; i++) {
                if (ways[i] != LEVEL) {
                    kept |= (ways[i] == CHANGE ? changed : rose) & 1 << i;
                }
            }
        }

        int pending() {
            int bits = kept;
            for (int i = 0; i < ways.length; i++) {
                if (ways[i] == LEVEL) {
                    bits |= up & 1 << i;
                }
            }
            return bits;
        }

        int best() {
            int open = pending() & ~hidden;
            int line = NONE;
            int rank = NONE;
            for (int i = 0; i < ranks.length; i++) {
                if ((open >> i & 1) != 0 && ranks[i] > rank) {
                    line = i;
                    rank = ranks[i];
                }
            }
            return line;
        }

        void forget(int line) {
            kept &= ~(1 << line);
        }

        void allDown() {
            up = 0;
            kept = 0;
        }
    }
}

/**
 * One room for all buffers: programs of steps that read and write buffers, their orders, what they
 * hold, where they lie, what is sent out, two runs at once, and all laid as one goes.
 */
public final class BufferRoom {
    public static final int NONE = -1, BAD = -2, STATE = -3, FULL = -4;
    public static final long NO = -4611686018427387904L;

    private static final int BUFFERS = 12, STEPS = 10, READS = 4, TERMS = 4, LETTERS = 4;
    private static final int UNBOUNDED = 2147483647;
    private static final int TAPE = 240, CELLS = 100000, TOLD = 6, TICKS = 400;
    private static final int SHEETS = 4, NUMBERS = 40, BYTES = 0, SHORTS = 1, INTS = 2, MISSING = -1;
    private static final int NO_SUCH = -5, NO_SET = -6, NO_WHAT = -7, FAULTS = -100;
    private static final int NOTHING = -11, OUTSIDE = -12, UNLIKE = -13, BELOW = -14;

    private final Reader reader;
    private Program program;
    private Program draft;
    private final Timeline times;
    private final Orders orders;
    private final Heights heights;
    private final int[] plan;
    private final Sending sending;
    private final Pairing pairing;
    private final Floor floor;
    private final Floor kept;
    private boolean isKept;
    private final Sheet[] sheets;
    private int programs;

    public BufferRoom() {
        reader = new Reader();
        program = new Program();
        draft = new Program();
        program.clear();
        times = new Timeline();
        orders = new Orders();
        heights = new Heights();
        plan = new int[BUFFERS];
        sending = new Sending();
        pairing = new Pairing();
        floor = new Floor();
        kept = new Floor();
        sheets = new Sheet[SHEETS];
        for (int s = 0; s < SHEETS; s++) {
            sheets[s] = new Sheet();
        }
        begin();
    }

    // ---- the program

    public int feed(long w, int n) {
        if (n < 1 || n > 8) {
            return BAD;
        }
        if (reader.length + n > TAPE) {
            return FULL;
        }
        reader.append(w, n);
        return reader.length;
    }

    public int program() {
        int fault = reader.readInto(draft);
        reader.length = 0;
        if (fault >= 0) {
            return FAULTS - fault;
        }
        Program before = program;
        program = draft;
        draft = before;
        programs++;
        begin();
        return program.steps;
    }

    public int letter(int l, int v) {
        if (l < 0 || l >= LETTERS) {
            return NONE;
        }
        if (v < 0 || v > 99) {
            return BAD;
        }
        if (floor.place > 0) {
            return STATE;
        }
        int before = floor.worth[l];
        floor.worth[l] = v;
        renew();
        return before;
    }

    public int order(int sheet) {
        if (!isSheet(sheet)) {
            return NO_SUCH;
        }
        Sheet row = sheets[sheet];
        if (row.sort == MISSING) {
            return NOTHING;
        }
        if (row.size != program.steps) {
            return BAD;
        }
        if (floor.place > 0) {
            return STATE;
        }
        int wrong = times.firstWrong(program, row);
        if (wrong >= 0) {
            return FAULTS - wrong;
        }
        times.tell(row);
        renew();
        return program.steps;
    }

    public int orderTold(int k) {
        int refusal = refusalOfPlace(k);
        return refusal < 0 ? refusal : times.row[k];
    }

    public int load(int k) {
        int refusal = refusalOfPlace(k);
        return refusal < 0 ? refusal : times.held[k];
    }

    public int over(int k) {
        int refusal = refusalOfPlace(k);
        return refusal < 0 ? refusal : times.overs[k];
    }

    public int peak(int what) {
        if (what < 0 || what > 2) {
            return NO_SUCH;
        }
        if (!times.ordered) {
            return STATE;
        }
        if (what == 2) {
            return program.ticksOfAll();
        }
        int place = times.placeOfPeak();
        if (what == 1) {
            return place;
        }
        return place < 0 ? 0 : times.held[place];
    }

    public int bufferTold(int b, int what) {
        if (!program.has(b)) {
            return NO_SUCH;
        }
        if (what < 0 || what > 4) {
            return NO_WHAT;
        }
        if (what > 2 && !times.ordered) {
            return STATE;
        }
        switch (what) {
            case 0: return times.loads.size[b];
            case 1: return program.writer[b];
            case 2: return program.wanted[b] ? 1 : 0;
            case 3: return times.from[b];
            default: return times.till[b];
        }
    }

    public int stepTold(int s, int what) {
        if (!program.hasStep(s)) {
            return NO_SUCH;
        }
        if (what < 0 || what >= 6 + program.readCount[s]) {
            return NO_WHAT;
        }
        switch (what) {
            case 0: return program.kind[s];
            case 1: return program.ticksOf(s);
            case 2: return program.written[s];
            case 3: return program.readCount[s];
            case 4: return times.loads.scratch[s];
            case 5: return times.loads.isOver[s] ? 1 : 0;
            default: return program.reads[s * READS + what - 6];
        }
    }

    public int leastPeak(int i) {
        if (i < -2 || i >= program.steps) {
            return NO_SUCH;
        }
        if (!times.ordered) {
            return STATE;
        }
        orders.find(times.loads);
        switch (i) {
            case -2: return orders.heaps;
            case -1: return orders.least[0];
            default: return orders.row[i];
        }
    }

    // ---- places

    public int height(int sheet) {
        int refusal = refusalOfBuffers(sheet);
        if (refusal < 0) {
            return refusal;
        }
        if (!times.ordered) {
            return STATE;
        }
        return heights.find(times, sheets[sheet]);
    }

    public int heightAt(int i) {
        return i < 0 || i >= heights.foundCount ? NO_SUCH : heights.found[i];
    }

    public int lay(int b, int at) {
        if (!program.has(b)) {
            return NO_SUCH;
        }
        if (!isPlanned(at)) {
            return BAD;
        }
        int before = plan[b];
        plan[b] = at;
        return before;
    }

    public int clash() {
        if (!times.ordered) {
            return STATE;
        }
        for (int low = 0; low < BUFFERS; low++) {
            for (int high = low + 1; high < BUFFERS; high++) {
                if (plannedTogether(low, high) && times.hinder(low, high)) {
                    return 100 * low + high;
                }
            }
        }
        return NONE;
    }

    public int sendOut(int sheet, int room, int rate) {
        int refusal = refusalOfBuffers(sheet);
        if (refusal == NO_SUCH || refusal == NOTHING) {
            return refusal;
        }
        if (refusal < 0 || room < 0 || room >= CELLS || rate < 1 || rate > 99) {
            return BAD;
        }
        if (!times.ordered) {
            return STATE;
        }
        int time = sending.find(times, sheets[sheet], room, rate);
        return time < 0 ? NO_SET : time;
    }

    public int outs() {
        return sending.found;
    }

    public int pair(int phase) {
        if (phase < 0 || phase > TICKS) {
            return BAD;
        }
        if (!times.ordered) {
            return STATE;
        }
        pairing.spread(times);
        return pairing.together(phase);
    }

    public int bestPhase(int most) {
        if (most < 0 || most > TICKS) {
            return BAD;
        }
        if (!times.ordered) {
            return STATE;
        }
        pairing.spread(times);
        return pairing.bestOf(most);
    }

    // ---- as one goes

    public int rule(int r) {
        if (r < 0 || r > 2) {
            return BAD;
        }
        int before = floor.fit;
        floor.fit = r;
        return before;
    }

    public int go(int n) {
        if (n < 1 || n > 12) {
            return BAD;
        }
        if (!times.ordered || floor.place + n > program.steps) {
            return STATE;
        }
        for (int i = 0; i < n; i++) {
            floor.walk(times);
        }
        return floor.place;
    }

    public int compact() {
        return floor.moveDown(times.loads.size);
    }

    public int roomTold(int what, int b) {
        switch (what) {
            case 0: return floor.place;
            case 1: return floor.high;
            case 2: return floor.top(times.loads.size);
            case 3: return program.has(b) ? floor.at[b] : NO_SUCH;
            case 4: return floor.fit;
            default: return NO_WHAT;
        }
    }

    public int holder(int cell) {
        if (cell < 0 || cell >= CELLS) {
            return BAD;
        }
        return floor.whoHolds(cell, times.loads.size);
    }

    public int again() {
        int before = floor.place;
        floor.empty();
        return before;
    }

    public int image() {
        kept.takeFrom(floor);
        isKept = true;
        return kept.place;
    }

    public int back() {
        if (!isKept) {
            return STATE;
        }
        floor.takeFrom(kept);
        renew();
        return floor.place;
    }

    public int kindTold(int kind, int what, int a, int b) {
        if (!Kinds.isKind(kind) || a < 0 || a > 999 || b < 0 || b > 999) {
            return BAD;
        }
        switch (what) {
            case 0: return Kinds.ticks(kind, a);
            case 1: return Kinds.scratch(kind, a, b);
            case 2: return Kinds.isOver(kind) ? 1 : 0;
            default: return BAD;
        }
    }

    public int count(int what) {
        if (what < 0 || what >= 4 + LETTERS) {
            return BAD;
        }
        switch (what) {
            case 0: return program.steps;
            case 1: return reader.length;
            case 2: return programs;
            case 3: return times.told ? 1 : 0;
            default: return floor.worth[what - 4];
        }
    }

    // ---- the host

    public int sheet(int s, int sort, int n) {
        if (!isSheet(s) || (sort != MISSING && !isSort(sort))) {
            return BAD;
        }
        if (sort == MISSING) {
            sheets[s].become(MISSING, 0);
            return 1;
        }
        if (n > NUMBERS) {
            return BAD;
        }
        if (n < 0) {
            return BELOW;
        }
        sheets[s].become(sort, n);
        return 1;
    }

    public int cell(int s, int i, int v) {
        if (!isSheet(s)) {
            return BAD;
        }
        if (sheets[s].sort == MISSING) {
            return NOTHING;
        }
        if (!sheets[s].spans(i, 1)) {
            return OUTSIDE;
        }
        sheets[s].put(i, v);
        return 1;
    }

    public int copy(int s, int i, int other, int j, int n) {
        if (!isSheet(s) || !isSheet(other)) {
            return BAD;
        }
        Sheet source = sheets[s];
        Sheet target = sheets[other];
        if (source.sort == MISSING || target.sort == MISSING) {
            return NOTHING;
        }
        if (source.sort != target.sort) {
            return UNLIKE;
        }
        if (!source.spans(i, n) || !target.spans(j, n)) {
            return OUTSIDE;
        }
        System.arraycopy(source.numbers, i, target.numbers, j, n);
        return n;
    }

    public int lays(int s, int sort, int from, int n) {
        if (!isSheet(s) || !isSort(sort) || n < 0 || n > 20) {
            return BAD;
        }
        Sheet row = sheets[s];
        if (row.sort == MISSING) {
            return NOTHING;
        }
        if (row.sort != sort) {
            return UNLIKE;
        }
        int came = 0;
        for (int i = 0; i < n; i++) {
            if (!row.spans(from, 2 * i + 2)) {
                return OUTSIDE;
            }
            int b = row.numbers[from + 2 * i];
            int at = row.numbers[from + 2 * i + 1];
            if (program.has(b) && isPlanned(at)) {
                plan[b] = at;
                came++;
            }
        }
        return came;
    }

    public int taken(int what, int i, int kind) {
        boolean asSize = kind == 6;
        if (what < 0 || what > 1 || (!asSize && !Kinds.isKind(kind))) {
            return BAD;
        }
        if (what == 1) {
            if (!program.has(i)) {
                return NOTHING;
            }
            return asSize ? program.terms[i] : UNLIKE;
        }
        if (!program.hasStep(i)) {
            return NOTHING;
        }
        return !asSize && Kinds.isOne(program.kind[i], kind) ? i : UNLIKE;
    }

    // ---- what several of the calls share

    private static boolean isSheet(int s) {
        return s >= 0 && s < SHEETS;
    }

    private static boolean isSort(int sort) {
        return sort >= BYTES && sort <= INTS;
    }

    private static boolean isPlanned(int at) {
        return at >= NONE && at < CELLS;
    }

    private static boolean shareCells(int at, int size, int otherAt, int otherSize) {
        return size > 0 && otherSize > 0 && at < otherAt + otherSize && otherAt < at + size;
    }

    /** A PROGRAM begins: of the one ahead only LETTERS, the rule and what was found last stay. */
    private void begin() {
        times.told = false;
        for (int b = 0; b < BUFFERS; b++) {
            plan[b] = NONE;
        }
        floor.empty();
        isKept = false;
        renew();
    }

    /** To be called when THE PROGRAM, THE ORDER or what LETTERS are worth became another one. */
    private void renew() {
        times.renew(program, floor.worth);
        orders.isFound = false;
    }

    private int refusalOfPlace(int k) {
        if (k < 0 || k >= program.steps) {
            return NO_SUCH;
        }
        return times.ordered ? 0 : STATE;
    }

    /** What refuses a SHEET that is to tell a few BUFFERS, or 0. */
    private int refusalOfBuffers(int sheet) {
        if (!isSheet(sheet)) {
            return NO_SUCH;
        }
        Sheet row = sheets[sheet];
        if (row.sort == MISSING) {
            return NOTHING;
        }
        if (row.size > TOLD) {
            return BAD;
        }
        for (int i = 0; i < row.size; i++) {
            if (!program.has(row.numbers[i])) {
                return BAD;
            }
        }
        return 0;
    }

    private boolean plannedTogether(int b, int other) {
        int[] size = times.loads.size;
        return plan[b] >= 0 && plan[other] >= 0
            && shareCells(plan[b], size[b], plan[other], size[other]);
    }

    /** The KINDS of STEPS, each but the first one under the one that ABOVE names. */
    private static final class Kinds {
        private static final int STEP = 0, COPY = 1, FOLD = 2, TURN = 3, SORT = 4, POINT = 5;
        private static final int[] ABOVE = {-1, STEP, STEP, COPY, FOLD, FOLD};

        static boolean isKind(int kind) {
            return kind >= STEP && kind <= POINT;
        }

        /** Whether a STEP of the KIND is one of the other KIND, too. */
        static boolean isOne(int kind, int other) {
            int now = isKind(kind) ? kind : -1;
            for (int up = 0; up < ABOVE.length && now >= 0; up++) {
                if (now == other) {
                    return true;
                }
                now = ABOVE[now];
            }
            return false;
        }

        static boolean isOver(int kind) {
            return isOne(kind, FOLD);
        }

        static int ticks(int kind, int time) {
            switch (kind) {
                case COPY: return (time + 1) / 2;
                case TURN: return (time + 1) / 2 + 2;
                case SORT: return 3 * time;
                default: return time;
            }
        }

        static int scratch(int kind, int read, int written) {
            switch (kind) {
                case FOLD: return written;
                case TURN: return Math.max(read, written) / 2;
                case SORT: return written + read;
                case POINT: return written / 8;
                default: return 0;
            }
        }
    }

    /**
     * What a text tells. There are two of them, used by turns, so that a text with a FAULT leaves
     * THE PROGRAM as it is and nothing is made for a new one.
     */
    private static final class Program {
        private final int[] terms = new int[BUFFERS];
        private final int[] numbers = new int[BUFFERS * TERMS];
        private final int[] letters = new int[BUFFERS * TERMS];
        private final boolean[] wanted = new boolean[BUFFERS];
        private final int[] writer = new int[BUFFERS];
        private final int[] readers = new int[BUFFERS];
        private int steps;
        private final int[] kind = new int[STEPS];
        private final int[] time = new int[STEPS];
        private final int[] written = new int[STEPS];
        private final int[] readCount = new int[STEPS];
        private final int[] reads = new int[STEPS * READS];

        void clear() {
            steps = 0;
            for (int b = 0; b < BUFFERS; b++) {
                terms[b] = 0;
                wanted[b] = false;
                writer[b] = NONE;
                readers[b] = 0;
            }
        }

        /** A BUFFER that is there has at least one TERM. */
        boolean has(int b) {
            return b >= 0 && b < BUFFERS && terms[b] > 0;
        }

        boolean hasStep(int s) {
            return s >= 0 && s < steps;
        }

        void addTerm(int b, int number, int letter) {
            if (terms[b] < TERMS) {
                int place = b * TERMS + terms[b];
                numbers[place] = number;
                letters[place] = letter;
                terms[b]++;
            }
        }

        /** The caller has looked that there are fewer than STEPS. */
        int addStep(int ofKind) {
            int s = steps;
            kind[s] = ofKind;
            readCount[s] = 0;
            steps++;
            return s;
        }

        void addRead(int s, int b) {
            if (readCount[s] < READS) {
                reads[s * READS + readCount[s]] = b;
                readCount[s]++;
                readers[b] |= 1 << s;
            }
        }

        void addWrite(int s, int b) {
            written[s] = b;
            writer[b] = s;
        }

        boolean isRead(int b, int s) {
            return (readers[b] >> s & 1) != 0;
        }

        int sizeOf(int b, int[] worth) {
            int size = 0;
            for (int t = b * TERMS; t < b * TERMS + terms[b]; t++) {
                size += letters[t] < 0 ? numbers[t] : numbers[t] * worth[letters[t]];
            }
            return size;
        }

        int ticksOf(int s) {
            return Kinds.ticks(kind[s], time[s]);
        }

        int ticksOfAll() {
            int ticks = 0;
            for (int s = 0; s < steps; s++) {
                ticks += ticksOf(s);
            }
            return ticks;
        }

        /** Whether all that a STEP READS stands when those STEPS (as bits) are done. */
        boolean isReady(int s, int done) {
            for (int r = s * READS; r < s * READS + readCount[s]; r++) {
                int before = writer[reads[r]];
                if (before >= 0 && (done >> before & 1) == 0) {
                    return false;
                }
            }
            return true;
        }
    }

    /** THE TAPE, and the reading of it; each part answers whether it stood there as it should. */
    private static final class Reader {
        private final int[] bytes = new int[TAPE];
        private int length;
        private int at;
        private int here;
        private Program into;

        /** The caller has looked that n bytes have room. */
        void append(long w, int n) {
            for (int i = n - 1; i >= 0; i--) {
                bytes[length] = (int) (w >>> 8 * i) & 255;
                length++;
            }
        }

        /** The place of the FAULT, or -1. */
        int readInto(Program target) {
            into = target;
            into.clear();
            goTo(0);
            for (int turn = 0; turn < TAPE && at < length; turn++) {
                if (!readStatement()) {
                    return at;
                }
            }
            return -1;
        }

        private boolean readStatement() {
            int b = bufferHere();
            if (b < 0) {
                int digit = digitHere();
                return Kinds.isKind(digit) && readStep(digit);
            }
            if (into.wanted[b]) {
                return false;
            }
            goTo(at + 1);
            return into.has(b) ? readWanted(b) : readSize(b);
        }

        private boolean readWanted(int b) {
            into.wanted[b] = true;
            return skip('!') && skip(';');
        }

        private boolean readSize(int b) {
            if (!skip('=')) {
                return false;
            }
            for (int t = 0; t < TERMS; t++) {
                if (!readTerm(b)) {
                    return false;
                }
                if (skip(';')) {
                    return true;
                }
                if (!skip('+')) {
                    return false;
                }
            }
            // the + behind the last TERM goes on, and what comes behind it can't
            return false;
        }

        private boolean readTerm(int b) {
            int number = readNumber();
            if (number < 0) {
                return false;
            }
            int letter = here - 'A';
            if (letter >= 0 && letter < LETTERS) {
                goTo(at + 1);
            } else {
                letter = NONE;
            }
            into.addTerm(b, number, letter);
            return true;
        }

        private boolean readStep(int ofKind) {
            if (into.steps >= STEPS) {
                return false;
            }
            goTo(at + 1);
            int s = into.addStep(ofKind);
            readReads(s);
            return skip('>') && readWrite(s) && readTime(s) && skip(';');
        }

        /** As many as go on so; what stands behind them is to be a > then. */
        private void readReads(int s) {
            for (int r = 0; r < READS; r++) {
                int b = bufferHere();
                if (!into.has(b) || into.isRead(b, s)) {
                    return;
                }
                goTo(at + 1);
                into.addRead(s, b);
            }
        }

        private boolean readWrite(int s) {
            int b = bufferHere();
            if (!into.has(b) || into.writer[b] >= 0 || into.isRead(b, s)) {
                return false;
            }
            goTo(at + 1);
            into.addWrite(s, b);
            return true;
        }

        private boolean readTime(int s) {
            into.time[s] = readNumber();
            return into.time[s] >= 0;
        }

        /** One or two digits, or -1. */
        private int readNumber() {
            int first = digitHere();
            if (first < 0) {
                return -1;
            }
            goTo(at + 1);
            int second = digitHere();
            if (second < 0) {
                return first;
            }
            goTo(at + 1);
            return 10 * first + second;
        }

        private boolean skip(int sign) {
            if (here != sign) {
                return false;
            }
            goTo(at + 1);
            return true;
        }

        private int digitHere() {
            return here >= '0' && here <= '9' ? here - '0' : -1;
        }

        private int bufferHere() {
            return here >= 'a' && here < 'a' + BUFFERS ? here - 'a' : -1;
        }

        private void goTo(int place) {
            at = place;
            here = place < length ? bytes[place] : -1;
        }
    }

    /** What a STEP holds when others (as bits) are done; no ORDER is needed for that. */
    private static final class Loads {
        private Program program;
        private final int[] size = new int[BUFFERS];
        private final int[] scratch = new int[STEPS];
        private final boolean[] isOver = new boolean[STEPS];

        void measure(Program ofProgram, int[] worth) {
            program = ofProgram;
            for (int b = 0; b < BUFFERS; b++) {
                size[b] = program.sizeOf(b, worth);
            }
            for (int s = 0; s < program.steps; s++) {
                int read = 0;
                for (int r = s * READS; r < s * READS + program.readCount[s]; r++) {
                    read += size[program.reads[r]];
                }
                scratch[s] = Kinds.scratch(program.kind[s], read, size[program.written[s]]);
                isOver[s] = Kinds.isOver(program.kind[s]);
            }
        }

        int overAt(int done, int s) {
            int over = NONE;
            if (!isOver[s]) {
                return over;
            }
            int doneThen = done | 1 << s;
            for (int r = s * READS; r < s * READS + program.readCount[s]; r++) {
                int b = program.reads[r];
                boolean isLast = (program.readers[b] & ~doneThen) == 0;
                if (isLast && !program.wanted[b] && (over < 0 || isFirst(b, over))) {
                    over = b;
                }
            }
            return over;
        }

        private boolean isFirst(int b, int other) {
            return size[b] > size[other] || (size[b] == size[other] && b < other);
        }

        /** Of what was WRITTEN by the ones that are done, or by none, all that goes on. */
        int heldAfter(int done) {
            int held = 0;
            for (int b = 0; b < BUFFERS; b++) {
                int writer = program.writer[b];
                boolean isWritten = writer < 0 || (done >> writer & 1) != 0;
                if (isWritten && (program.wanted[b] || (program.readers[b] & ~done) != 0)) {
                    held += size[b];
                }
            }
            return held;
        }

        int loadAt(int done, int s, int heldAhead) {
            int write = size[program.written[s]];
            int over = overAt(done, s);
            int less = over < 0 ? 0 : Math.min(size[over], write);
            return scratch[s] + heldAhead + write - less;
        }
    }

    /** THE ORDER, and when each BUFFER is ALIVE by it, OVER and LOAD at its places. */
    private static final class Timeline {
        private final Loads loads = new Loads();
        private Program program;
        private boolean told;
        private boolean ordered;
        private final int[] row = new int[STEPS];
        private final int[] overs = new int[STEPS];
        private final int[] held = new int[STEPS];
        private final int[] from = new int[BUFFERS];
        private final int[] till = new int[BUFFERS];

        void renew(Program ofProgram, int[] worth) {
            program = ofProgram;
            loads.measure(program, worth);
            if (!told) {
                ordered = findOrder();
            }
            if (ordered) {
                findLives();
                findLoads();
            }
        }

        /** The first place of a row of numbers at which no such STEP can be, or -1. */
        int firstWrong(Program ofProgram, Sheet sheet) {
            int done = 0;
            for (int k = 0; k < sheet.size; k++) {
                int s = sheet.numbers[k];
                if (!ofProgram.hasStep(s) || (done >> s & 1) != 0 || !ofProgram.isReady(s, done)) {
                    return k;
                }
                done |= 1 << s;
            }
            return -1;
        }

        /** The caller has looked that the SHEET is an ORDER; renew() is to follow. */
        void tell(Sheet sheet) {
            for (int k = 0; k < STEPS && k < sheet.size; k++) {
                row[k] = sheet.numbers[k];
            }
            told = true;
            ordered = true;
        }

        private boolean findOrder() {
            int done = 0;
            for (int k = 0; k < program.steps; k++) {
                int s = leastReady(done);
                if (s < 0) {
                    return false;
                }
                row[k] = s;
                done |= 1 << s;
            }
            return true;
        }

        private int leastReady(int done) {
            for (int s = 0; s < program.steps; s++) {
                if ((done >> s & 1) == 0 && program.isReady(s, done)) {
                    return s;
                }
            }
            return -1;
        }

        private void findLives() {
            for (int b = 0; b < BUFFERS; b++) {
                from[b] = 0;
                till[b] = -1;
            }
            for (int k = 0; k < program.steps; k++) {
                int s = row[k];
                from[program.written[s]] = k;
                till[program.written[s]] = k;
                for (int r = s * READS; r < s * READS + program.readCount[s]; r++) {
                    till[program.reads[r]] = k;
                }
            }
            for (int b = 0; b < BUFFERS; b++) {
                if (program.wanted[b]) {
                    till[b] = program.steps - 1;
                }
            }
        }

        private void findLoads() {
            int done = 0;
            for (int k = 0; k < program.steps; k++) {
                int s = row[k];
                overs[k] = loads.overAt(done, s);
                held[k] = loads.loadAt(done, s, loads.heldAfter(done));
                done |= 1 << s;
            }
        }

        int placeOfPeak() {
            int place = -1;
            for (int k = 0; k < program.steps; k++) {
                if (place < 0 || held[k] > held[place]) {
                    place = k;
                }
            }
            return place;
        }

        boolean isAlive(int b) {
            return from[b] <= till[b];
        }

        boolean areAlive(int b, int other) {
            return from[b] <= till[other] && from[other] <= till[b];
        }

        /** Whether two that share a cell CLASH: one that is written over may lie under the other. */
        boolean hinder(int b, int other) {
            if (!areAlive(b, other)) {
                return false;
            }
            int first = Math.max(from[b], from[other]);
            if (first < Math.min(till[b], till[other])) {
                return true;
            }
            int written = program.written[row[first]];
            boolean givesWay = (overs[first] == b && written == other)
                || (overs[first] == other && written == b);
            return !givesWay;
        }

        /** The places (as bits) at which a BUFFER is ALIVE and stands idle. */
        int idlePlaces(int b) {
            int idle = 0;
            for (int k = from[b]; k <= till[b]; k++) {
                int s = row[k];
                if (program.written[s] != b && !program.isRead(b, s)) {
                    idle |= 1 << k;
                }
            }
            return idle;
        }
    }

    /** LEAST PEAK, told by the STEPS that are done (as bits), from all of them down to none. */
    private static final class Orders {
        private boolean isFound;
        private int heaps;
        private final int[] least = new int[1 << STEPS];
        private final int[] row = new int[STEPS];

        /** What was found holds as long as no one says that it doesn't: this is the dearest call. */
        void find(Loads loads) {
            if (isFound) {
                return;
            }
            int all = (1 << loads.program.steps) - 1;
            heaps = 0;
            for (int done = all; done >= 0; done--) {
                least[done] = done == all ? 0 : leastFrom(loads, done);
                if (least[done] != UNBOUNDED) {
                    heaps++;
                }
            }
            findRow(loads);
            isFound = true;
        }

        private int leastFrom(Loads loads, int done) {
            int best = UNBOUNDED;
            int held = loads.heldAfter(done);
            for (int s = 0; s < loads.program.steps; s++) {
                if ((done >> s & 1) == 0 && loads.program.isReady(s, done)) {
                    best = Math.min(best, peakThrough(loads, done, s, held));
                }
            }
            return best;
        }

        private int peakThrough(Loads loads, int done, int s, int held) {
            return Math.max(loads.loadAt(done, s, held), least[done | 1 << s]);
        }

        /** The least STEP that keeps to the least of all, not to the least from there on. */
        private void findRow(Loads loads) {
            int done = 0;
            for (int k = 0; k < loads.program.steps; k++) {
                int s = firstWithin(loads, done);
                if (s < 0) {
                    return;
                }
                row[k] = s;
                done |= 1 << s;
            }
        }

        private int firstWithin(Loads loads, int done) {
            int held = loads.heldAfter(done);
            for (int s = 0; s < loads.program.steps; s++) {
                if ((done >> s & 1) == 0 && loads.program.isReady(s, done)
                    && peakThrough(loads, done, s, held) <= least[0]) {
                    return s;
                }
            }
            return -1;
        }
    }

    /** HEIGHT, by a search over all rows of the SHEET's places, the first one first. */
    private static final class Heights {
        private Timeline times;
        private Sheet sheet;
        private int lowest;
        private final int[] at = new int[TOLD];
        private int foundCount;
        private final int[] found = new int[TOLD];

        int find(Timeline byTimes, Sheet bySheet) {
            times = byTimes;
            sheet = bySheet;
            foundCount = sheet.size;
            lowest = UNBOUNDED;
            extend(0, 0, 0);
            return lowest;
        }

        /** The places that are used lie; a row that is no lower than one ahead of it is given up. */
        private void extend(int depth, int used, int top) {
            if (top >= lowest) {
                return;
            }
            if (depth >= sheet.size) {
                lowest = top;
                System.arraycopy(at, 0, found, 0, sheet.size);
                return;
            }
            for (int i = 0; i < sheet.size; i++) {
                if ((used >> i & 1) == 0) {
                    put(i, depth, used, top);
                }
            }
        }

        private void put(int i, int depth, int used, int top) {
            at[i] = lowestPlace(i, used);
            extend(depth + 1, used | 1 << i, Math.max(top, upperEnd(i)));
        }

        private int upperEnd(int i) {
            return at[i] + times.loads.size[sheet.numbers[i]];
        }

        /** Each one that lies can lift it once at most. */
        private int lowestPlace(int i, int used) {
            int place = 0;
            for (int lifts = 0; lifts < sheet.size; lifts++) {
                int hit = firstHit(i, place, used);
                if (hit < 0) {
                    return place;
                }
                place = upperEnd(hit);
            }
            return place;
        }

        private int firstHit(int i, int place, int used) {
            int b = sheet.numbers[i];
            int[] size = times.loads.size;
            for (int j = 0; j < sheet.size; j++) {
                int other = sheet.numbers[j];
                if ((used >> j & 1) != 0 && times.areAlive(b, other)
                    && shareCells(place, size[b], at[j], size[other])) {
                    return j;
                }
            }
            return -1;
        }
    }

    /** What is SENT OUT: all sets of a SHEET's places are tried, as bits, from none of them on. */
    private static final class Sending {
        private int found;
        private Timeline times;
        private Sheet sheet;

        /** The least time, or -1. */
        int find(Timeline byTimes, Sheet bySheet, int room, int rate) {
            times = byTimes;
            sheet = bySheet;
            int best = -1;
            for (int set = 0; set < 1 << sheet.size; set++) {
                int buffers = buffersOf(set);
                int time = timeOf(buffers, rate);
                if ((best < 0 || time < best) && fits(buffers, room)) {
                    best = time;
                    found = buffers;
                }
            }
            return best;
        }

        private int buffersOf(int set) {
            int buffers = 0;
            for (int i = 0; i < sheet.size; i++) {
                if ((set >> i & 1) != 0) {
                    buffers |= 1 << sheet.numbers[i];
                }
            }
            return buffers;
        }

        private int timeOf(int buffers, int rate) {
            int time = 0;
            for (int b = 0; b < BUFFERS; b++) {
                if ((buffers >> b & 1) != 0) {
                    int idle = times.idlePlaces(b);
                    int stretches = Integer.bitCount(idle & ~(idle << 1));
                    time += stretches * ((2 * times.loads.size[b] + rate - 1) / rate);
                }
            }
            return time;
        }

        private boolean fits(int buffers, int room) {
            for (int k = 0; k < times.program.steps; k++) {
                if (times.held[k] - outAt(buffers, k) > room) {
                    return false;
                }
            }
            return true;
        }

        private int outAt(int buffers, int k) {
            int out = 0;
            for (int b = 0; b < BUFFERS; b++) {
                if ((buffers >> b & 1) != 0 && (times.idlePlaces(b) >> k & 1) != 0) {
                    out += times.loads.size[b];
                }
            }
            return out;
        }
    }

    /** A PAIR: place by place instead of tick by tick, as LOAD is one for all ticks of a place. */
    private static final class Pairing {
        private Timeline times;
        private final int[] start = new int[STEPS];
        private final int[] end = new int[STEPS];

        void spread(Timeline byTimes) {
            times = byTimes;
            int tick = 0;
            for (int k = 0; k < times.program.steps; k++) {
                start[k] = tick;
                tick = Math.min(TICKS, tick + times.program.ticksOf(times.row[k]));
                end[k] = tick;
            }
        }

        int together(int behind) {
            int most = 0;
            for (int k = 0; k < times.program.steps; k++) {
                if (start[k] < end[k]) {
                    most = Math.max(most, times.held[k] + mostBehind(k, behind));
                }
            }
            return most;
        }

        /** The most that the second run holds in one of the ticks of a place of the first one. */
        private int mostBehind(int k, int behind) {
            int most = 0;
            for (int j = 0; j < times.program.steps; j++) {
                int first = Math.max(start[k], start[j] + behind);
                if (first < Math.min(end[k], end[j] + behind)) {
                    most = Math.max(most, times.held[j]);
                }
            }
            return most;
        }

        int bestOf(int mostBehind) {
            int best = 0;
            int least = together(0);
            for (int behind = 1; behind <= mostBehind; behind++) {
                int now = together(behind);
                if (now < least) {
                    best = behind;
                    least = now;
                }
            }
            return best;
        }
    }

    /** What lies where as one goes: all that AN IMAGE keeps, so that AN IMAGE is one of these. */
    private static final class Floor {
        private int place;
        private int high;
        private int fit;
        private final int[] at = new int[BUFFERS];
        private final int[] worth = {1, 1, 1, 1};

        void empty() {
            place = 0;
            high = 0;
            for (int b = 0; b < BUFFERS; b++) {
                at[b] = NONE;
            }
        }

        void takeFrom(Floor other) {
            place = other.place;
            high = other.high;
            fit = other.fit;
            System.arraycopy(other.at, 0, at, 0, BUFFERS);
            System.arraycopy(other.worth, 0, worth, 0, LETTERS);
        }

        /** One STEP; the caller has looked that there is one more. */
        void walk(Timeline times) {
            int[] size = times.loads.size;
            int s = times.row[place];
            if (place == 0) {
                putGiven(times);
            }
            putWritten(times.program.written[s], times.overs[place], size);
            high = Math.max(high, top(size) + times.loads.scratch[s]);
            for (int b = 0; b < BUFFERS; b++) {
                if (times.till[b] <= place) {
                    at[b] = NONE;
                }
            }
            place++;
        }

        private void putGiven(Timeline times) {
            for (int b = 0; b < BUFFERS; b++) {
                if (times.program.writer[b] < 0 && times.isAlive(b)) {
                    at[b] = placeFor(b, times.loads.size);
                }
            }
        }

        private void putWritten(int b, int over, int[] size) {
            if (over >= 0 && size[over] >= size[b]) {
                at[b] = at[over];
                at[over] = NONE;
            } else {
                at[b] = placeFor(b, size);
            }
        }

        /** The HOLES from below; the one above all is taken if no other one was chosen. */
        private int placeFor(int b, int[] size) {
            int edge = 0;
            int chosen = -1;
            int width = 0;
            for (int turn = 0; turn < BUFFERS; turn++) {
                int next = lowestFrom(edge, size);
                if (next < 0) {
                    break;
                }
                int hole = at[next] - edge;
                if (hole > 0 && hole >= size[b] && (chosen < 0 || isBetter(hole, width))) {
                    chosen = edge;
                    width = hole;
                }
                edge = at[next] + size[next];
            }
            return chosen < 0 ? edge : chosen;
        }

        private boolean isBetter(int hole, int width) {
            switch (fit) {
                case 1: return hole < width;
                case 2: return hole > width;
                default: return false;
            }
        }

        /** BUFFERS of no cells bound no HOLE. */
        private int lowestFrom(int edge, int[] size) {
            int lowest = NONE;
            for (int b = 0; b < BUFFERS; b++) {
                if (at[b] >= edge && size[b] > 0 && (lowest < 0 || at[b] < at[lowest])) {
                    lowest = b;
                }
            }
            return lowest;
        }

        int top(int[] size) {
            int top = 0;
            for (int b = 0; b < BUFFERS; b++) {
                if (at[b] >= 0) {
                    top = Math.max(top, at[b] + size[b]);
                }
            }
            return top;
        }

        int moveDown(int[] size) {
            int moved = 0;
            int edge = 0;
            int done = 0;
            for (int turn = 0; turn < BUFFERS; turn++) {
                int b = lowestBut(done);
                if (b < 0) {
                    break;
                }
                if (at[b] != edge) {
                    moved += size[b];
                    at[b] = edge;
                }
                edge += size[b];
                done |= 1 << b;
            }
            return moved;
        }

        private int lowestBut(int done) {
            int lowest = NONE;
            for (int b = 0; b < BUFFERS; b++) {
                if (at[b] >= 0 && (done >> b & 1) == 0 && (lowest < 0 || at[b] < at[lowest])) {
                    lowest = b;
                }
            }
            return lowest;
        }

        int whoHolds(int cell, int[] size) {
            for (int b = 0; b < BUFFERS; b++) {
                if (at[b] >= 0 && at[b] <= cell && cell - at[b] < size[b]) {
                    return b;
                }
            }
            return NONE;
        }
    }

    /** A SHEET; one row for all that it ever becomes. */
    private static final class Sheet {
        private int sort = MISSING;
        private int size;
        private final int[] numbers = new int[NUMBERS];

        void become(int newSort, int newSize) {
            sort = newSort;
            size = newSize;
            for (int i = 0; i < NUMBERS; i++) {
                numbers[i] = 0;
            }
        }

        void put(int i, int v) {
            switch (sort) {
                case BYTES: numbers[i] = (byte) v; break;
                case SHORTS: numbers[i] = (short) v; break;
                default: numbers[i] = v;
            }
        }

        /** Whether n numbers from a place on lie inside. */
        boolean spans(int first, int n) {
            return n >= 0 && first >= 0 && first <= size - n;
        }
    }
}

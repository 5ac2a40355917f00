import java.util.Arrays;

/** All that the document says, call by call, by Model and Grammar; for programs of few STEPS. */
final class SlowRoom {
    private static final int NONE = -1, BAD = -2, STATE = -3, FULL = -4;

    private String tape = "";
    private Model m = programOf("");
    private int programs;
    private Model image;
    private boolean isOrderOfImage;
    private int[] heights = {};
    private int outs;
    private final int[] sorts = {-1, -1, -1, -1};
    private final int[][] sheets = new int[4][0];

    /** What the document leaves open, so that no answer is due. */
    boolean isOpen(int method, int[] a) {
        switch (method) {
            case 8: return !isThere(a[0]) && (a[1] == 3 || a[1] == 4) && m.order() == null;
            case 26: return image != null && !isOrderOfImage;
            case 32: return a[3] == 0 && isSheet(a[0]) && (a[2] < 0 || a[2] >= sheets[a[0]].length);
            default: return false;
        }
    }

    /** The methods as AnyCallTest numbers them. */
    int call(int method, int[] a, long w) {
        switch (method) {
            case 0: return feed(w, a[0]);
            case 1: return program();
            case 2: return letter(a[0], a[1]);
            case 3: return order(a[0]);
            case 4: case 5: case 6: return atPlace(method, a[0]);
            case 7: return peak(a[0]);
            case 8: return bufferTold(a[0], a[1]);
            case 9: return stepTold(a[0], a[1]);
            case 10: return leastPeak(a[0]);
            case 11: return height(a[0]);
            case 12: return a[0] < 0 || a[0] >= heights.length ? -5 : heights[a[0]];
            case 13: return lay(a[0], a[1]);
            case 14: return m.order() == null ? STATE : m.clash(m.order());
            case 15: return sendOut(a[0], a[1], a[2]);
            case 16: return outs;
            case 17: case 18: return pair(method, a[0]);
            case 19: return rule(a[0]);
            case 20: return go(a[0]);
            case 21: return m.compact();
            case 22: return roomTold(a[0], a[1]);
            case 23: return holder(a[0]);
            case 24: return again();
            case 25: return image();
            case 26: return back();
            case 27: return kindTold(a[0], a[1], a[2], a[3]);
            case 28: return count(a[0]);
            case 29: return sheet(a[0], a[1], a[2]);
            case 31: return copy(a[0], a[1], a[2], a[3], a[4]);
            case 32: return lays(a[0], a[1], a[2], a[3]);
            case 33: return taken(a[0], a[1], a[2]);
            default: return cell(a[0], a[1], method == 30 ? a[2] : a[2] & 15);
        }
    }

    // ---- the program

    private static Model programOf(String text) {
        Model m = new Model();
        m.buffers = 12;
        m.numbers = new int[12][0];
        m.letters = new int[12][0];
        m.wanted = new boolean[12];
        m.kind = new int[0];
        m.time = new int[0];
        m.reads = new int[0][];
        m.writes = new int[0];
        m.plan = new int[12];
        m.at = new int[12];
        Arrays.fill(m.plan, -1);
        Arrays.fill(m.at, -1);
        for (String statement : text.isEmpty() ? new String[0] : text.split(";")) {
            if (statement.contains("=")) {
                size(m, statement.charAt(0) - 'a', statement.substring(2).split("\\+"));
            } else if (statement.contains("!")) {
                m.wanted[statement.charAt(0) - 'a'] = true;
            } else {
                step(m, statement);
            }
        }
        return m;
    }

    private static void size(Model m, int b, String[] terms) {
        m.numbers[b] = new int[terms.length];
        m.letters[b] = new int[terms.length];
        for (int t = 0; t < terms.length; t++) {
            String number = terms[t].replaceAll("[A-D]", "");
            m.numbers[b][t] = Integer.parseInt(number);
            m.letters[b][t] = number.equals(terms[t]) ? -1 : terms[t].charAt(number.length()) - 'A';
        }
    }

    private static void step(Model m, String statement) {
        int s = m.kind.length;
        int to = statement.indexOf('>');
        m.kind = Arrays.copyOf(m.kind, s + 1);
        m.time = Arrays.copyOf(m.time, s + 1);
        m.reads = Arrays.copyOf(m.reads, s + 1);
        m.writes = Arrays.copyOf(m.writes, s + 1);
        m.kind[s] = statement.charAt(0) - '0';
        m.reads[s] = statement.substring(1, to).chars().map(c -> c - 'a').toArray();
        m.writes[s] = statement.charAt(to + 1) - 'a';
        m.time[s] = Integer.parseInt(statement.substring(to + 2));
    }

    private boolean isThere(int b) {
        return b >= 0 && b < 12 && m.numbers[b].length > 0;
    }

    private boolean isStep(int s) {
        return s >= 0 && s < m.steps();
    }

    private static boolean isSheet(int s) {
        return s >= 0 && s < 4;
    }

    private int feed(long w, int n) {
        if (n < 1 || n > 8) {
            return BAD;
        }
        if (tape.length() + n > 240) {
            return FULL;
        }
        for (int i = 8 * n - 8; i >= 0; i -= 8) {
            tape += (char) (w >> i & 255);
        }
        return tape.length();
    }

    private int program() {
        int fault = Grammar.faultOf(tape);
        String text = tape;
        tape = "";
        if (fault >= 0) {
            return -100 - fault;
        }
        Model before = m;
        m = programOf(text);
        m.worth = before.worth;
        m.rule = before.rule;
        programs++;
        image = null;
        return m.steps();
    }

    private int letter(int l, int v) {
        if (l < 0 || l > 3) {
            return NONE;
        }
        if (v < 0 || v > 99) {
            return BAD;
        }
        if (m.place > 0) {
            return STATE;
        }
        int before = m.worth[l];
        m.worth[l] = v;
        return before;
    }

    private int order(int s) {
        if (!isSheet(s)) {
            return -5;
        }
        if (sorts[s] < 0) {
            return -11;
        }
        if (sheets[s].length != m.steps()) {
            return BAD;
        }
        if (m.place > 0) {
            return STATE;
        }
        for (int k = 0; k < m.steps(); k++) {
            if (m.wrongAt(sheets[s], k)) {
                return -100 - k;
            }
        }
        m.told = sheets[s].clone();
        isOrderOfImage = false;
        return m.steps();
    }

    private int atPlace(int method, int k) {
        if (!isStep(k)) {
            return -5;
        }
        int[] row = m.order();
        if (row == null) {
            return STATE;
        }
        return method == 4 ? row[k] : method == 5 ? m.load(row, k) : m.over(row, k);
    }

    private int peak(int what) {
        if (what < 0 || what > 2) {
            return -5;
        }
        int[] row = m.order();
        if (row == null) {
            return STATE;
        }
        int ticks = 0;
        int place = -1;
        for (int k = row.length - 1; k >= 0; k--) {
            ticks += m.ticks(k);
            place = m.load(row, k) == m.peak(row) ? k : place;
        }
        return what == 0 ? m.peak(row) : what == 1 ? place : ticks;
    }

    private int bufferTold(int b, int what) {
        if (!isThere(b)) {
            return -5;
        }
        int[] row = m.order();
        switch (what) {
            case 0: return m.size(b);
            case 1: return m.writer(b);
            case 2: return m.wanted[b] ? 1 : 0;
            case 3: return row == null ? STATE : m.from(row, b);
            case 4: return row == null ? STATE : m.till(row, b);
            default: return -7;
        }
    }

    private int stepTold(int s, int what) {
        if (!isStep(s)) {
            return -5;
        }
        int reads = m.reads[s].length;
        int over = kindTold(m.kind[s], 2, 0, 0);
        int[] all = {m.kind[s], m.ticks(s), m.writes[s], reads, m.scratch(s), over};
        if (what >= 0 && what < 6) {
            return all[what];
        }
        return what < 0 || what - 6 >= reads ? -7 : m.reads[s][what - 6];
    }

    private int leastPeak(int i) {
        if (i < -2 || i >= m.steps()) {
            return -5;
        }
        if (m.order() == null) {
            return STATE;
        }
        int[] row = m.leastPeakRow();
        return i == -2 ? 1 << row.length : i == -1 ? m.peak(row) : row[i];
    }

    // ---- places

    private int refusalOfBuffers(int s) {
        if (!isSheet(s)) {
            return -5;
        }
        if (sorts[s] < 0) {
            return -11;
        }
        for (int b : sheets[s]) {
            if (!isThere(b)) {
                return BAD;
            }
        }
        return sheets[s].length > 6 ? BAD : 0;
    }

    private int height(int s) {
        int refusal = refusalOfBuffers(s);
        if (refusal < 0 || m.order() == null) {
            return refusal < 0 ? refusal : STATE;
        }
        int n = sheets[s].length;
        int[] found = m.height(m.order(), sheets[s]);
        heights = Arrays.copyOf(found, n);
        return found[n];
    }

    private int lay(int b, int at) {
        if (!isThere(b)) {
            return -5;
        }
        if (at < -1 || at > 99999) {
            return BAD;
        }
        int before = m.plan[b];
        m.plan[b] = at;
        return before;
    }

    private int sendOut(int s, int room, int rate) {
        int refusal = refusalOfBuffers(s);
        if (refusal == -5 || refusal == -11) {
            return refusal;
        }
        if (refusal < 0 || room < 0 || room > 99999 || rate < 1 || rate > 99) {
            return BAD;
        }
        if (m.order() == null) {
            return STATE;
        }
        int[] found = m.sendOut(m.order(), sheets[s], room, rate);
        outs = found == null ? outs : found[1];
        return found == null ? -6 : found[0];
    }

    private int pair(int method, int ticks) {
        if (ticks < 0 || ticks > 400) {
            return BAD;
        }
        int[] row = m.order();
        if (row == null) {
            return STATE;
        }
        return method == 17 ? m.pair(row, ticks) : m.bestPhase(row, ticks);
    }

    // ---- as one goes

    private int rule(int r) {
        if (r < 0 || r > 2) {
            return BAD;
        }
        int before = m.rule;
        m.rule = r;
        return before;
    }

    private int go(int n) {
        if (n < 1 || n > 12) {
            return BAD;
        }
        if (m.order() == null || m.place + n > m.steps()) {
            return STATE;
        }
        for (int i = 0; i < n; i++) {
            m.walk(m.order());
        }
        return m.place;
    }

    private int roomTold(int what, int b) {
        switch (what) {
            case 0: return m.place;
            case 1: return m.high;
            case 2: return m.top();
            case 3: return isThere(b) ? m.at[b] : -5;
            case 4: return m.rule;
            default: return -7;
        }
    }

    private int holder(int cell) {
        if (cell < 0 || cell > 99999) {
            return BAD;
        }
        return cell < Model.CELLS ? m.cells()[cell] : NONE;
    }

    private int again() {
        int before = m.place;
        m.place = 0;
        m.high = 0;
        Arrays.fill(m.at, -1);
        return before;
    }

    private int image() {
        image = new Model();
        bring(m, image);
        isOrderOfImage = true;
        return m.place;
    }

    private int back() {
        if (image == null) {
            return STATE;
        }
        bring(image, m);
        return m.place;
    }

    private static void bring(Model source, Model target) {
        target.place = source.place;
        target.high = source.high;
        target.rule = source.rule;
        target.at = source.at.clone();
        target.worth = source.worth.clone();
    }

    private static int kindTold(int kind, int what, int a, int b) {
        if (kind < 0 || kind > 5 || what < 0 || what > 2 || a < 0 || a > 999 || b < 0 || b > 999) {
            return BAD;
        }
        int copy = a - a / 2;
        int[][] told = {
            {a, copy, a, copy + 2, 3 * a, a}, {0, 0, b, Math.max(a, b) / 2, a + b, b / 8}, {0, 0, 1, 0, 1, 1},
        };
        return told[what][kind];
    }

    private int count(int what) {
        int[] all = {m.steps(), tape.length(), programs, m.told == null ? 0 : 1,
            m.worth[0], m.worth[1], m.worth[2], m.worth[3]};
        return what < 0 || what > 7 ? BAD : all[what];
    }

    // ---- the host

    private int sheet(int s, int sort, int n) {
        if (!isSheet(s) || sort < -1 || sort > 2 || sort >= 0 && n > 40) {
            return BAD;
        }
        if (sort >= 0 && n < 0) {
            return -14;
        }
        sorts[s] = sort;
        sheets[s] = new int[sort < 0 ? 0 : n];
        return 1;
    }

    private int cell(int s, int i, int v) {
        if (!isSheet(s)) {
            return BAD;
        }
        if (sorts[s] < 0) {
            return -11;
        }
        if (i < 0 || i >= sheets[s].length) {
            return -12;
        }
        sheets[s][i] = sorts[s] == 0 ? (byte) v : sorts[s] == 1 ? (short) v : v;
        return 1;
    }

    private int copy(int s, int i, int other, int j, int n) {
        if (!isSheet(s) || !isSheet(other)) {
            return BAD;
        }
        if (sorts[s] < 0 || sorts[other] < 0) {
            return -11;
        }
        if (sorts[s] != sorts[other]) {
            return -13;
        }
        if (i < 0 || j < 0 || n < 0 || (long) i + n > sheets[s].length || (long) j + n > sheets[other].length) {
            return -12;
        }
        int[] asTheyWere = sheets[s].clone();
        for (int k = 0; k < n; k++) {
            sheets[other][j + k] = asTheyWere[i + k];
        }
        return n;
    }

    private int lays(int s, int sort, int from, int n) {
        if (!isSheet(s) || sort < 0 || sort > 2 || n < 0 || n > 20) {
            return BAD;
        }
        if (sorts[s] < 0) {
            return -11;
        }
        if (sorts[s] != sort) {
            return -13;
        }
        int came = 0;
        for (long k = from; k < from + 2L * n; k += 2) {
            if (k < 0 || k + 1 >= sheets[s].length) {
                return -12;
            }
            came += lay(sheets[s][(int) k], sheets[s][(int) k + 1]) < -1 ? 0 : 1;
        }
        return came;
    }

    private int taken(int what, int i, int kind) {
        if (what < 0 || what > 1 || kind < 0 || kind > 6) {
            return BAD;
        }
        if (what == 0 ? !isStep(i) : !isThere(i)) {
            return -11;
        }
        if (what == 1) {
            return kind == 6 ? m.numbers[i].length : -13;
        }
        String[] isOne = {"0", "01", "02", "013", "024", "025"};
        return isOne[m.kind[i]].contains("" + kind) ? i : -13;
    }
}

import java.util.Arrays;
import java.util.HashSet;

/** Random programs and random runs of calls, each answer against Model's or Grammar's. */
final class ModelTest {
    private static final Check CHECK = new Check("ModelTest");
    private static final String TEN_STEPS = "a=9;b=8;c=7;d=6;e=5;f=4;g=3;h=2;i=1;j=99;k=98;l=97;l!;a!;"
        + "4k>a5;0a>b5;0>c5;4b>d5;0>e5;0>f5;2ak>g5;0>h5;0>i5;0kl>j5;";
    private static int run;

    public static void main(String[] args) {
        for (run = 0; run < 3000; run++) {
            texts(new Dice(run + 1));
        }
        for (run = 0; run < 1500; run++) {
            programs(new Dice(run + 100001));
        }
        for (run = 0; run < 4000; run++) {
            walks(new Dice(run + 200001));
        }
        for (run = 0; run < 1500; run++) {
            large(new Dice(run + 300001));
        }
        hardHeights();
        rates();
        for (run = 0; run < 40; run++) {
            everyPhase(new Dice(run + 400001));
        }
        CHECK.close();
    }

    private static void due(String call, long got, long want) {
        CHECK.due("run " + run + ": " + call, got, want);
    }

    // ---- texts

    private static void texts(Dice dice) {
        String text = dice.once(4) ? anyText(dice) : changed(dice, model(dice).text());
        text = text.substring(0, Math.min(240, text.length()));
        int fault = Grammar.faultOf(text);
        int answer = Rooms.take(new BufferRoom(), text);
        due(text, answer < 0 ? answer : -1, fault < 0 ? -1 : -100 - fault);
    }

    private static String anyText(Dice dice) {
        StringBuilder text = new StringBuilder();
        for (int i = dice.below(30); i >= 0; i--) {
            String[] parts = {"a=", "b=", "1", "23", "A", "+", ";", ";", "0", ">", "a", "b", "!", "a!;", "b=1;", "a=2;"};
            text.append(parts[dice.below(parts.length)]);
        }
        return text.toString();
    }

    private static String changed(Dice dice, String text) {
        StringBuilder changed = new StringBuilder(text);
        String signs = "abcl=0123569ABDE+;;!>m \u0000\u00ff";
        for (int i = dice.below(3); i > 0 && changed.length() > 0; i--) {
            int place = dice.below(changed.length());
            char sign = signs.charAt(dice.below(signs.length()));
            switch (dice.below(4)) {
                case 0: changed.deleteCharAt(place); break;
                case 1: changed.insert(place, sign); break;
                case 2: changed.setCharAt(place, sign); break;
                default: changed.setLength(place);
            }
        }
        return changed.toString();
    }

    // ---- programs

    /** Of a PROGRAM of a few STEPS. */
    static String text(Dice dice) {
        String text = model(dice).text();
        return text.length() > 240 ? "" : text;
    }

    private static Model model(Dice dice) {
        return model(dice, dice.below(8) + 1, 5);
    }

    private static Model model(Dice dice, int buffers, int mostSteps) {
        Model m = new Model();
        m.buffers = buffers;
        m.numbers = new int[m.buffers][];
        m.letters = new int[m.buffers][];
        m.wanted = new boolean[m.buffers];
        for (int b = 0; b < m.buffers; b++) {
            int terms = dice.once(3) ? dice.below(4) + 1 : 1;
            m.numbers[b] = new int[terms];
            m.letters[b] = new int[terms];
            for (int t = 0; t < terms; t++) {
                m.numbers[b][t] = dice.below(12);
                m.letters[b][t] = dice.once(3) ? dice.below(4) : -1;
            }
            m.wanted[b] = dice.once(5);
        }
        steps(dice, m, dice.below(Math.min(m.buffers, mostSteps) + 1));
        m.plan = new int[m.buffers];
        m.at = new int[m.buffers];
        Arrays.fill(m.plan, -1);
        Arrays.fill(m.at, -1);
        return m;
    }

    private static void steps(Dice dice, Model m, int steps) {
        boolean mayTurn = dice.once(3);
        m.kind = new int[steps];
        m.reads = new int[steps][];
        m.writes = new int[steps];
        m.time = new int[steps];
        int[] all = row(dice, m.buffers);
        for (int s = 0; s < steps; s++) {
            m.kind[s] = dice.below(6);
            m.writes[s] = all[s];
            m.time[s] = dice.once(10) ? dice.below(100) : dice.below(6);
            m.reads[s] = new int[0];
            for (int b : row(dice, m.buffers)) {
                boolean early = true;
                for (int later = s; later < steps; later++) {
                    early &= all[later] != b;
                }
                if (b != all[s] && m.reads[s].length < 4 && (early || mayTurn && dice.once(4)) && dice.once(2)) {
                    m.reads[s] = Arrays.copyOf(m.reads[s], m.reads[s].length + 1);
                    m.reads[s][m.reads[s].length - 1] = b;
                }
            }
        }
    }

    /** 0 .. n - 1, shuffled. */
    private static int[] row(Dice dice, int n) {
        int[] row = new int[n];
        for (int i = 0; i < n; i++) {
            int j = dice.below(i + 1);
            row[i] = row[j];
            row[j] = i;
        }
        return row;
    }

    /** A room with the PROGRAM; of others ahead of it nothing is to shine through. */
    private static BufferRoom room(Dice dice, Model m) {
        BufferRoom x = new BufferRoom();
        for (int ahead = dice.below(3); ahead > 0; ahead--) {
            Rooms.take(x, TEN_STEPS);
            x.go(dice.below(10) + 1);
        }
        int answer = Rooms.take(x, m.text());
        due(m.text(), answer, m.steps());
        for (int l = 0; l < 4; l++) {
            if (dice.once(2)) {
                m.worth[l] = dice.below(5);
                x.letter(l, m.worth[l]);
            }
        }
        return x;
    }

    private static void programs(Dice dice) {
        Model m = model(dice);
        BufferRoom x = room(dice, m);
        for (int s = 0; s < m.steps(); s++) {
            due("ticks", x.stepTold(s, 1), m.ticks(s));
            due("scratch", x.stepTold(s, 4), m.scratch(s));
        }
        for (int b = 0; b < m.buffers; b++) {
            due("size", x.bufferTold(b, 0), m.size(b));
            due("writer", x.bufferTold(b, 1), m.writer(b));
        }
        if (m.order() == null) {
            due(m.text() + " has no order", x.peak(0), -3);
            due(m.text() + " has no order", x.leastPeak(-1), -3);
            return;
        }
        tellAnOrder(dice, m, x);
        times(m, x);
        leastPeak(m, x);
        plans(dice, m, x);
        pairs(dice, m, x);
    }

    private static void tellAnOrder(Dice dice, Model m, BufferRoom x) {
        int[] row = row(dice, m.steps());
        if (row.length > 0 && dice.once(6)) {
            row[dice.below(row.length)] = dice.below(7) - 1;
        }
        int wrong = -1;
        for (int k = row.length - 1; k >= 0; k--) {
            wrong = m.wrongAt(row, k) ? k : wrong;
        }
        due("order", Rooms.order(x, row), wrong < 0 ? row.length : -100 - wrong);
        if (wrong < 0) {
            m.told = row;
        }
    }

    private static void times(Model m, BufferRoom x) {
        int[] row = m.order();
        String text = m.text();
        for (int k = 0; k < row.length; k++) {
            due(text + " order at " + k, x.orderTold(k), row[k]);
            due(text + " over at " + k, x.over(k), m.over(row, k));
            due(text + " load at " + k, x.load(k), m.load(row, k));
        }
        for (int b = 0; b < m.buffers; b++) {
            due(text + " from " + b, x.bufferTold(b, 3), m.from(row, b));
            due(text + " till " + b, x.bufferTold(b, 4), m.till(row, b));
        }
        due(text + " peak", x.peak(0), m.peak(row));
        if (row.length > 0) {
            due(text + " at its place", x.load(x.peak(1)), m.peak(row));
            for (int k = 0; k < x.peak(1); k++) {
                due(text + " ahead of it", m.load(row, k) < m.peak(row) ? 1 : 0, 1);
            }
        }
    }

    private static void leastPeak(Model m, BufferRoom x) {
        int[] row = m.leastPeakRow();
        due(m.text() + " least peak", x.leastPeak(-1), m.peak(row));
        due(m.text() + " heaps", x.leastPeak(-2), 1 << row.length);
        for (int k = 0; k < row.length; k++) {
            due(m.text() + " least peak at " + k, x.leastPeak(k), row[k]);
        }
    }

    private static void plans(Dice dice, Model m, BufferRoom x) {
        int[] row = m.order();
        for (int turn = 0; turn < 3; turn++) {
            int[] sheet = new int[dice.below(dice.once(20) ? 7 : 5)];
            for (int i = 0; i < sheet.length; i++) {
                sheet[i] = dice.below(m.buffers);
            }
            String by = m.text() + " by " + Arrays.toString(sheet);
            int[] height = m.height(row, sheet);
            due(by + " height", Rooms.height(x, sheet), height[sheet.length]);
            for (int i = 0; i < sheet.length; i++) {
                due(by + " height at " + i, x.heightAt(i), height[i]);
            }
            int room = Math.max(0, m.peak(row) - dice.below(20));
            int rate = dice.below(9) + 1;
            int[] out = m.sendOut(row, sheet, room, rate);
            int before = x.outs();
            due(by + " out", Rooms.sendOut(x, room, rate, sheet), out == null ? -6 : out[0]);
            due(by + " outs", x.outs(), out == null ? before : out[1]);
        }
        for (int turn = 0; turn < 4; turn++) {
            for (int b = 0; b < m.buffers; b++) {
                int cell = dice.below(60) - 1;
                due("lay", x.lay(b, cell), m.plan[b]);
                m.plan[b] = cell;
            }
            due(m.text() + " clash by " + Arrays.toString(m.plan), x.clash(), m.clash(row));
        }
    }

    private static void pairs(Dice dice, Model m, BufferRoom x) {
        int[] row = m.order();
        for (int turn = 0; turn < 4; turn++) {
            int phase = dice.below(dice.once(2) ? 401 : 20);
            due(m.text() + " pair " + phase, x.pair(phase), m.pair(row, phase));
        }
        int most = dice.below(12);
        due(m.text() + " best of " + most, x.bestPhase(most), m.bestPhase(row, most));
    }

    // ---- up to twelve BUFFERS and ten STEPS

    private static void large(Dice dice) {
        Model m = model(dice, 9 + dice.below(4), 10);
        steps(dice, m, 6 + dice.below(Math.min(m.buffers, 10) - 5));
        if (m.text().length() > 240 || m.order() == null) {
            return;
        }
        BufferRoom x = room(dice, m);
        told(m, x);
        times(m, x);
        anyLeastPeak(m, x);
        pairs(dice, m, x);
        int[] row = m.order();
        for (int b = 0; b < m.buffers; b++) {
            m.plan[b] = dice.below(400);
            x.lay(b, m.plan[b]);
        }
        due(m.text() + " clash by " + Arrays.toString(m.plan), x.clash(), m.clash(row));
        int[] sheet = {m.buffers - 1, dice.below(m.buffers), 8, 7};
        int room = Math.max(0, m.peak(row) - dice.below(20));
        int[] out = m.sendOut(row, sheet, room, 3);
        due(m.text() + " out", Rooms.sendOut(x, room, 3, sheet), out == null ? -6 : out[0]);
        due(m.text() + " outs", x.outs(), out == null ? 0 : out[1]);
        m.rule = dice.below(3);
        x.rule(m.rule);
        for (int k = 0; k < row.length; k++) {
            m.walk(row);
            due(m.text() + " go", x.go(1), k + 1);
        }
        due(m.text() + " high", x.roomTold(1, 0), m.high);
        for (int b = 0; b < m.buffers; b++) {
            due(m.text() + ": where " + b + " lies", x.roomTold(3, b), m.at[b]);
        }
    }

    private static void told(Model m, BufferRoom x) {
        for (int s = 0; s < m.steps(); s++) {
            int[] want = {m.kind[s], m.ticks(s), m.writes[s], m.reads[s].length, m.scratch(s)};
            for (int what = 0; what < 5; what++) {
                due(m.text() + " STEP " + s + ", " + what, x.stepTold(s, what), want[what]);
            }
            for (int r = 0; r <= m.reads[s].length; r++) {
                int read = r < m.reads[s].length ? m.reads[s][r] : -7;
                due(m.text() + " STEP " + s + " READS", x.stepTold(s, 6 + r), read);
            }
            due(m.text() + " STEP " + s + " taken", x.taken(0, s, m.kind[s]), s);
        }
        for (int b = 0; b < m.buffers; b++) {
            due(m.text() + " BUFFER " + b, x.bufferTold(b, 0), m.size(b));
            due(m.text() + " BUFFER " + b, x.bufferTold(b, 1), m.writer(b));
            due(m.text() + " BUFFER " + b, x.bufferTold(b, 2), m.wanted[b] ? 1 : 0);
            due(m.text() + " BUFFER " + b, x.taken(1, b, 6), m.numbers[b].length);
        }
        due(m.text() + " one beyond", x.bufferTold(m.buffers, 0), -5);
    }

    /** An ORDER of that PEAK, which none of some others goes below. */
    private static void anyLeastPeak(Model m, BufferRoom x) {
        int[] least = new int[m.steps()];
        for (int k = 0; k < least.length; k++) {
            least[k] = x.leastPeak(k);
        }
        due(m.text() + " can be", m.canStand(least) ? 1 : 0, 1);
        due(m.text() + " least peak", x.leastPeak(-1), m.peak(least));
        due(m.text() + " not above the first ORDER's", Math.max(m.peak(least), m.peak(m.order())), m.peak(m.order()));
        due(m.text() + " heaps", x.leastPeak(-2), 1 << least.length);
        if (least.length <= 6) {
            CHECK.dueAll(m.text() + " least peak", least, m.leastPeakRow());
        }
        if (run % 4 == 0) {
            int peak = x.leastPeak(-1);
            CHECK.dueAll(m.text() + " least peak", least, m.rowWithin(new int[0], peak, new HashSet<>()));
            due(m.text() + " less", m.rowWithin(new int[0], peak - 1, new HashSet<>()) == null ? 1 : 0, 1);
        }
    }

    // ---- told ones

    /** A BUFFER for each size; a STEP for each text: what it READS, and the last one that it WRITES. */
    private static Model told(int[] sizes, String... steps) {
        Model m = new Model();
        m.buffers = sizes.length;
        m.numbers = new int[sizes.length][];
        m.letters = new int[sizes.length][];
        for (int b = 0; b < sizes.length; b++) {
            m.numbers[b] = new int[] {sizes[b]};
            m.letters[b] = new int[] {-1};
        }
        m.wanted = new boolean[sizes.length];
        m.kind = new int[steps.length];
        m.time = new int[steps.length];
        m.reads = new int[steps.length][];
        m.writes = new int[steps.length];
        for (int s = 0; s < steps.length; s++) {
            int[] all = steps[s].chars().map(c -> c - 'a').toArray();
            m.reads[s] = Arrays.copyOf(all, all.length - 1);
            m.writes[s] = all[all.length - 1];
        }
        return m;
    }

    /** Of all rows few are the least ones, and by each SHEET they are others. */
    private static void hardHeights() {
        Model six = told(new int[] {3, 5, 5, 4, 3, 5, 0, 0, 0, 0},
            "g", "b", "c", "a", "be", "h", "ed", "f", "i", "adfj");
        Model five = told(new int[] {3, 4, 2, 3, 4, 0, 0, 0, 0, 0},
            "f", "g", "a", "e", "h", "ei", "c", "cd", "aj", "db");
        Model four = told(new int[] {1, 1, 3, 3, 0, 0, 0, 0, 0, 0},
            "c", "b", "e", "f", "g", "ch", "ba", "ad", "i", "dj");
        due("six", heights(six, 6, 7), 12);
        due("five", heights(five, 5, 1), 8);
        due("four", heights(four, 4, 1), 4);
    }

    /** By each of so many SHEETS of the first n BUFFERS, one as the other: the same HEIGHT. */
    private static int heights(Model m, int n, int each) {
        BufferRoom x = Rooms.with(m.text());
        int found = 0;
        for (run = 0; run < Model.rows(n).size(); run += each) {
            if (run % 30 == 0) {
                x = Rooms.with(m.text());
            }
            int[] sheet = Model.rows(n).get(run);
            int[] height = m.height(m.order(), sheet);
            found = Rooms.height(x, sheet);
            due(m.text() + " height", found, height[n]);
            for (int i = 0; i < n; i++) {
                due(m.text() + " height at " + i, x.heightAt(i), height[i]);
            }
        }
        return found;
    }

    /** Each set of six is the least one by one of the rooms; by each rate others are like. */
    private static void rates() {
        Model m = told(new int[] {0, 1, 2, 4, 8, 16, 32}, "a");
        Arrays.fill(m.wanted, true);
        int[] sheet = {3, 6, 1, 5, 2, 4};
        for (run = 1; run < 100; run++) {
            BufferRoom x = Rooms.with(m.text());
            Rooms.ints(x, 3, sheet);
            for (int room = 0; room < 64; room++) {
                int[] out = m.sendOut(m.order(), sheet, room, run);
                due("a room of " + room, x.sendOut(3, room, run), out[0]);
                due("a room of " + room + ", outs", x.outs(), out[1]);
                if (run == 1) {
                    due("each set of its own", out[1], (63 - room) * 2);
                }
            }
        }
    }

    /** Each number of ticks behind, for runs that take from a few ticks to more than are looked at. */
    private static void everyPhase(Dice dice) {
        Model m = model(dice, 8, 6);
        steps(dice, m, 4 + dice.below(3));
        for (int s = 0; s < m.steps(); s++) {
            m.time[s] = dice.below(run < 20 ? 100 : 30);
        }
        if (m.order() == null || m.text().length() > 240) {
            return;
        }
        BufferRoom x = Rooms.with(m.text());
        BufferRoom twin = Rooms.with(m.text());
        int best = 0;
        int least = 0;
        for (int phase = 0; phase <= 400; phase++) {
            int both = m.pair(m.order(), phase);
            due(m.text() + " pair " + phase, x.pair(phase), both);
            if (phase == 0 || both < least) {
                best = phase;
                least = both;
            }
            due(m.text() + " best of " + phase, twin.bestPhase(phase), best);
        }
    }

    // ---- as one goes

    private static void walks(Dice dice) {
        Model m = model(dice);
        BufferRoom x = room(dice, m);
        if (m.order() == null) {
            return;
        }
        Model kept = null;
        StringBuilder calls = new StringBuilder(m.text());
        // no more than that, as an object is used for 512 calls
        for (int turn = 0; turn < 16; turn++) {
            switch (dice.below(8)) {
                case 0:
                    m.rule = dice.below(3);
                    calls.append(" rule ").append(m.rule);
                    x.rule(m.rule);
                    break;
                case 1:
                    calls.append(" compact");
                    due(calls.toString(), x.compact(), m.compact());
                    break;
                case 2:
                    calls.append(" image");
                    due(calls.toString(), x.image(), m.place);
                    kept = keep(m);
                    break;
                case 3:
                    calls.append(" back");
                    due(calls.toString(), x.back(), kept == null ? -3 : kept.place);
                    if (kept != null) {
                        bring(kept, m);
                    }
                    break;
                case 4:
                    if (restart(dice, m, x, calls)) {
                        x.image();
                        kept = keep(m);
                    }
                    break;
                default:
                    go(dice, m, x, calls);
            }
            lying(m, x, calls.toString());
        }
    }

    private static void go(Dice dice, Model m, BufferRoom x, StringBuilder calls) {
        int n = dice.below(3) + 1;
        calls.append(" go ").append(n);
        boolean can = m.place + n <= m.steps();
        for (int i = 0; can && i < n; i++) {
            m.walk(m.order());
        }
        due(calls.toString(), x.go(n), can ? m.place : -3);
    }

    /** Whether an ORDER may have been told, by which THE IMAGE ahead is not of these STEPS. */
    private static boolean restart(Dice dice, Model m, BufferRoom x, StringBuilder calls) {
        if (m.place < m.steps() && dice.once(2)) {
            return false;
        }
        calls.append(" again");
        due(calls.toString(), x.again(), m.place);
        m.place = 0;
        m.high = 0;
        Arrays.fill(m.at, -1);
        int l = dice.below(4);
        int worth = dice.below(5);
        calls.append(" letter ").append(l).append(" ").append(worth);
        due(calls.toString(), x.letter(l, worth), m.worth[l]);
        m.worth[l] = worth;
        if (dice.once(2)) {
            calls.append(" order, image");
            tellAnOrder(dice, m, x);
            return true;
        }
        return false;
    }

    private static Model keep(Model m) {
        Model kept = new Model();
        kept.at = m.at.clone();
        kept.worth = m.worth.clone();
        bring(m, kept);
        return kept;
    }

    private static void bring(Model source, Model target) {
        target.place = source.place;
        target.high = source.high;
        target.rule = source.rule;
        target.at = source.at.clone();
        target.worth = source.worth.clone();
    }

    private static void lying(Model m, BufferRoom x, String calls) {
        due(calls + ": place", x.roomTold(0, 0), m.place);
        due(calls + ": high", x.roomTold(1, 0), m.high);
        due(calls + ": top", x.roomTold(2, 0), m.top());
        due(calls + ": rule", x.roomTold(4, 0), m.rule);
        for (int b = 0; b < m.buffers; b++) {
            due(calls + ": where " + b + " lies", x.roomTold(3, b), m.at[b]);
        }
        int[] cells = m.cells();
        for (int c : new int[] {0, m.top() / 2, Math.max(0, m.top() - 1), m.top()}) {
            due(calls + ": who holds " + c, x.holder(c), cells[c]);
        }
    }
}

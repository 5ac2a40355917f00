import java.util.ArrayList;
import java.util.Arrays;
import java.util.List;
import java.util.Set;

/**
 * What the document says, in its slowest form: each cell, tick, row and set by itself. Only for
 * programs of few steps and few cells.
 */
final class Model {
    static final int CELLS = 4000;

    int buffers;
    int[][] numbers;
    int[][] letters;
    boolean[] wanted;
    int[] kind;
    int[][] reads;
    int[] writes;
    int[] time;
    int[] worth = {1, 1, 1, 1};
    int[] told;
    int[] plan;
    int rule;
    int place;
    int high;
    int[] at;

    int steps() {
        return kind.length;
    }

    int size(int b) {
        int sum = 0;
        for (int t = 0; t < numbers[b].length; t++) {
            sum += numbers[b][t] * (letters[b][t] < 0 ? 1 : worth[letters[b][t]]);
        }
        return sum;
    }

    int ticks(int s) {
        int[] byKind = {time[s], time[s] - time[s] / 2, time[s], time[s] - time[s] / 2 + 2, 3 * time[s], time[s]};
        return byKind[kind[s]];
    }

    int scratch(int s) {
        int read = 0;
        for (int b : reads[s]) {
            read += size(b);
        }
        int write = size(writes[s]);
        int[] byKind = {0, 0, write, Math.max(read, write) / 2, write + read, write / 8};
        return byKind[kind[s]];
    }

    private static boolean contains(int[] row, int x) {
        for (int y : row) {
            if (x == y) {
                return true;
            }
        }
        return false;
    }

    int writer(int b) {
        for (int s = 0; s < steps(); s++) {
            if (writes[s] == b) {
                return s;
            }
        }
        return -1;
    }

    boolean canStand(int[] row) {
        for (int k = 0; k < row.length; k++) {
            if (wrongAt(row, k)) {
                return false;
            }
        }
        return true;
    }

    boolean wrongAt(int[] row, int k) {
        int s = row[k];
        int[] ahead = Arrays.copyOf(row, k);
        if (s < 0 || s >= steps() || contains(ahead, s)) {
            return true;
        }
        for (int b : reads[s]) {
            if (writer(b) >= 0 && !contains(ahead, writer(b))) {
                return true;
            }
        }
        return false;
    }

    /** THE ORDER, or null. */
    int[] order() {
        if (told != null) {
            return told;
        }
        int[] row = new int[0];
        while (row.length < steps()) {
            int k = row.length;
            int[] longer = Arrays.copyOf(row, k + 1);
            longer[k] = -1;
            for (int s = steps() - 1; s >= 0; s--) {
                int before = longer[k];
                longer[k] = s;
                if (wrongAt(longer, k)) {
                    longer[k] = before;
                }
            }
            if (longer[k] < 0) {
                return null;
            }
            row = longer;
        }
        return row;
    }

    int from(int[] row, int b) {
        for (int k = 0; k < row.length; k++) {
            if (writes[row[k]] == b) {
                return k;
            }
        }
        return 0;
    }

    int till(int[] row, int b) {
        if (wanted[b]) {
            return row.length - 1;
        }
        for (int k = row.length - 1; k >= 0; k--) {
            if (contains(reads[row[k]], b)) {
                return k;
            }
        }
        return writer(b) >= 0 ? from(row, b) : -1;
    }

    boolean alive(int[] row, int b, int k) {
        return k >= from(row, b) && k <= till(row, b);
    }

    int over(int[] row, int k) {
        int s = row[k];
        int best = -1;
        if (kind[s] == 2 || kind[s] == 4 || kind[s] == 5) {
            for (int b = 0; b < buffers; b++) {
                if (contains(reads[s], b) && till(row, b) == k && !wanted[b]
                    && (best < 0 || size(b) > size(best))) {
                    best = b;
                }
            }
        }
        return best;
    }

    int load(int[] row, int k) {
        int sum = scratch(row[k]);
        for (int b = 0; b < buffers; b++) {
            sum += alive(row, b, k) ? size(b) : 0;
        }
        int over = over(row, k);
        return over < 0 ? sum : sum - Math.min(size(over), size(writes[row[k]]));
    }

    int peak(int[] row) {
        int most = 0;
        for (int k = 0; k < row.length; k++) {
            most = Math.max(most, load(row, k));
        }
        return most;
    }

    private static void rows(int n, int[] ahead, List<int[]> all) {
        if (ahead.length == n) {
            all.add(ahead);
        }
        for (int i = 0; i < n && ahead.length < n; i++) {
            if (!contains(ahead, i)) {
                int[] longer = Arrays.copyOf(ahead, ahead.length + 1);
                longer[ahead.length] = i;
                rows(n, longer, all);
            }
        }
    }

    /** All rows of 0 .. n - 1, the first one first. */
    static List<int[]> rows(int n) {
        List<int[]> all = new ArrayList<>();
        rows(n, new int[0], all);
        return all;
    }

    int[] leastPeakRow() {
        int[] best = null;
        for (int[] row : rows(steps())) {
            if (canStand(row) && (best == null || peak(row) < peak(best))) {
                best = row;
            }
        }
        return best;
    }

    /** The first row that begins so and holds no more than that at each place, or null. */
    int[] rowWithin(int[] ahead, int most, Set<Integer> triedInVain) {
        if (ahead.length == steps()) {
            return ahead;
        }
        int done = 0;
        for (int s : ahead) {
            done |= 1 << s;
        }
        for (int s = 0; s < steps() && !triedInVain.contains(done); s++) {
            int[] longer = Arrays.copyOf(ahead, ahead.length + 1);
            longer[ahead.length] = s;
            if (!wrongAt(longer, ahead.length) && load(filledUp(longer), ahead.length) <= most) {
                int[] found = rowWithin(longer, most, triedInVain);
                if (found != null) {
                    return found;
                }
            }
        }
        triedInVain.add(done);
        return null;
    }

    /** The others come behind, in a row that need not be one that can be. */
    private int[] filledUp(int[] ahead) {
        int[] row = Arrays.copyOf(ahead, steps());
        int k = ahead.length;
        for (int s = 0; s < steps(); s++) {
            if (!contains(ahead, s)) {
                row[k] = s;
                k++;
            }
        }
        return row;
    }

    boolean share(int at, int size, int otherAt, int otherSize) {
        for (int c = at; c < at + size; c++) {
            if (c >= otherAt && c < otherAt + otherSize) {
                return true;
            }
        }
        return false;
    }

    int together(int[] row, int b, int other) {
        int places = 0;
        for (int k = 0; k < row.length; k++) {
            places += alive(row, b, k) && alive(row, other, k) ? 1 : 0;
        }
        return places;
    }

    /** Where each lies by the first of the least rows, and the greatest upper end behind them. */
    int[] height(int[] row, int[] sheet) {
        int[] best = null;
        int n = sheet.length;
        boolean[][] meet = new boolean[n][n];
        for (int i = 0; i < n * n; i++) {
            meet[i / n][i % n] = together(row, sheet[i / n], sheet[i % n]) > 0;
        }
        for (int[] turns : rows(n)) {
            int[] lies = new int[n + 1];
            boolean[] laid = new boolean[n];
            for (int i : turns) {
                while (hits(meet[i], sheet, lies, laid, i)) {
                    lies[i]++;
                }
                laid[i] = true;
                lies[n] = Math.max(lies[n], lies[i] + size(sheet[i]));
            }
            if (best == null || lies[n] < best[n]) {
                best = lies;
            }
        }
        return best;
    }

    private boolean hits(boolean[] meets, int[] sheet, int[] lies, boolean[] laid, int i) {
        for (int j = 0; j < sheet.length; j++) {
            if (laid[j] && meets[j]
                && share(lies[i], size(sheet[i]), lies[j], size(sheet[j]))) {
                return true;
            }
        }
        return false;
    }

    int clash(int[] row) {
        for (int b = 0; b < buffers; b++) {
            for (int other = b + 1; other < buffers; other++) {
                if (plan[b] >= 0 && plan[other] >= 0 && share(plan[b], size(b), plan[other], size(other))) {
                    int places = together(row, b, other);
                    boolean free = false;
                    for (int k = 0; k < row.length; k++) {
                        int over = over(row, k);
                        int write = writes[row[k]];
                        free |= over == b && write == other || over == other && write == b;
                    }
                    if (places > 1 || places == 1 && !free) {
                        return 100 * b + other;
                    }
                }
            }
        }
        return -1;
    }

    private boolean out(int[] row, int b, int k) {
        return k < row.length && alive(row, b, k) && writes[row[k]] != b && !contains(reads[row[k]], b);
    }

    /** The time and the BUFFERS as bits, or null. */
    int[] sendOut(int[] row, int[] sheet, int room, int rate) {
        int[] best = null;
        for (int set = 0; set < 1 << sheet.length; set++) {
            int bits = 0;
            for (int i = 0; i < sheet.length; i++) {
                bits |= (set >> i & 1) << sheet[i];
            }
            int needed = 0;
            int[] left = new int[row.length];
            for (int k = 0; k < row.length; k++) {
                left[k] = load(row, k);
                for (int b = 0; b < buffers; b++) {
                    if ((bits >> b & 1) != 0 && out(row, b, k)) {
                        left[k] -= size(b);
                        if (!out(row, b, k + 1)) {
                            needed += 2 * size(b) / rate + (2 * size(b) % rate > 0 ? 1 : 0);
                        }
                    }
                }
            }
            boolean fits = true;
            for (int load : left) {
                fits &= load <= room;
            }
            if (fits && (best == null || needed < best[0])) {
                best = new int[] {needed, bits};
            }
        }
        return best;
    }

    int pair(int[] row, int phase) {
        int[] one = new int[3000];
        int tick = 0;
        for (int s = 0; s < row.length; s++) {
            for (int t = 0; t < ticks(row[s]); t++) {
                one[tick] = load(row, s);
                tick++;
            }
        }
        int most = 0;
        for (int t = 0; t < 800; t++) {
            int first = t < 400 ? one[t] : 0;
            int second = t >= phase && t - phase < 400 ? one[t - phase] : 0;
            most = Math.max(most, first + second);
        }
        return most;
    }

    int bestPhase(int[] row, int most) {
        int best = 0;
        for (int phase = 1; phase <= most; phase++) {
            if (pair(row, phase) < pair(row, best)) {
                best = phase;
            }
        }
        return best;
    }

    int[] cells() {
        int[] cells = new int[CELLS];
        Arrays.fill(cells, -1);
        for (int b = 0; b < buffers; b++) {
            for (int c = 0; at[b] >= 0 && c < size(b); c++) {
                cells[at[b] + c] = b;
            }
        }
        return cells;
    }

    int top() {
        int top = 0;
        for (int b = 0; b < buffers; b++) {
            top = at[b] < 0 ? top : Math.max(top, at[b] + size(b));
        }
        return top;
    }

    private void put(int b) {
        int[] cells = cells();
        int end = CELLS;
        while (end > 0 && cells[end - 1] < 0) {
            end--;
        }
        int best = -1;
        int bestWidth = 0;
        for (int c = 0; c < end; c++) {
            if (cells[c] < 0 && (c == 0 || cells[c - 1] >= 0)) {
                int width = 0;
                while (cells[c + width] < 0) {
                    width++;
                }
                boolean better = best < 0 || rule == 1 && width < bestWidth || rule == 2 && width > bestWidth;
                if (width >= size(b) && better) {
                    best = c;
                    bestWidth = width;
                }
            }
        }
        at[b] = best < 0 ? end : best;
    }

    void walk(int[] row) {
        if (place == 0) {
            for (int b = 0; b < buffers; b++) {
                if (writer(b) < 0 && till(row, b) >= 0) {
                    put(b);
                }
            }
        }
        int write = writes[row[place]];
        int over = over(row, place);
        if (over >= 0 && size(over) >= size(write)) {
            at[write] = at[over];
            at[over] = -1;
        } else {
            put(write);
        }
        high = Math.max(high, top() + scratch(row[place]));
        for (int b = 0; b < buffers; b++) {
            if (till(row, b) <= place) {
                at[b] = -1;
            }
        }
        place++;
    }

    int compact() {
        int[] before = at.clone();
        Integer[] lying = new Integer[buffers];
        Arrays.setAll(lying, b -> b);
        Arrays.sort(lying, (x, y) -> before[x] - before[y]);
        int edge = 0;
        int moved = 0;
        for (int b : lying) {
            if (before[b] >= 0) {
                at[b] = edge;
                edge += size(b);
                moved += at[b] == before[b] ? 0 : size(b);
            }
        }
        return moved;
    }

    String text() {
        StringBuilder text = new StringBuilder();
        for (int b = 0; b < buffers; b++) {
            text.append((char) ('a' + b)).append('=');
            for (int t = 0; t < numbers[b].length; t++) {
                text.append(t > 0 ? "+" : "").append(numbers[b][t]);
                text.append(letters[b][t] < 0 ? "" : (char) ('A' + letters[b][t]));
            }
            text.append(';');
        }
        for (int s = 0; s < steps(); s++) {
            text.append(kind[s]);
            for (int b : reads[s]) {
                text.append((char) ('a' + b));
            }
            text.append('>').append((char) ('a' + writes[s])).append(time[s]).append(';');
        }
        for (int b = 0; b < buffers; b++) {
            text.append(wanted[b] ? (char) ('a' + b) + "!;" : "");
        }
        return text.toString();
    }
}

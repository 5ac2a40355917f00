/** Calls with each argument of a range, one after the other; what is due is told by a formula. */
final class EachTest {
    private static final Check CHECK = new Check("EachTest");
    private static final String TWELVE = "a=1;b=1;c=1;d=1;e=1;f=1;g=1;h=1;i=1;j=1;k=1;l=1;";

    public static void main(String[] args) {
        letters();
        lays();
        kinds();
        for (int size = 0; size < 5; size++) {
            for (int other = 0; other < 5; other++) {
                copies(size, other);
            }
        }
        for (int size = 0; size < 8; size++) {
            plans(size);
        }
        sheets();
        CHECK.close();
    }

    private static void due(String call, long got, long want) {
        CHECK.due(call, got, want);
    }

    private static void letters() {
        for (int l = -1; l < 5; l++) {
            BufferRoom x = Rooms.with("a=1A;b=1B;c=1C;d=1D;e=7;");
            int before = 1;
            for (int v = -1; v < 102; v++) {
                boolean isWorth = v >= 0 && v < 100;
                int want = l < 0 || l > 3 ? -1 : isWorth ? before : -2;
                due("letter(" + l + ", " + v + ")", x.letter(l, v), want);
                before = isWorth ? v : before;
                if (l >= 0 && l < 4) {
                    due("size by " + v, x.bufferTold(l, 0), before);
                    due("count by " + v, x.count(4 + l), before);
                }
            }
        }
    }

    private static void lays() {
        int[] cells = {-2, -1, 0, 1, 2, 255, 256, 32767, 32768, 65535, 65536, 99998, 99999, 100000, -1};
        for (int b = -1; b < 14; b++) {
            BufferRoom x = Rooms.with(TWELVE);
            int before = -1;
            for (int at : cells) {
                boolean isCell = at >= -1 && at < 100000;
                int want = b < 0 || b > 11 ? -5 : isCell ? before : -2;
                due("lay(" + b + ", " + at + ")", x.lay(b, at), want);
                before = isCell ? at : before;
            }
        }
    }

    /** By each READ and WRITTEN up to 33, and by the greatest ones. */
    private static void kinds() {
        int[] greatest = {99, 100, 127, 128, 255, 256, 511, 512, 997, 998, 999};
        for (int a = 0; a < 34 + greatest.length; a++) {
            for (int b = 0; b < 34 + greatest.length; b++) {
                kinds(a < 34 ? a : greatest[a - 34], b < 34 ? b : greatest[b - 34]);
            }
        }
    }

    private static void kinds(int a, int b) {
        BufferRoom x = new BufferRoom();
        int half = a % 2 == 0 ? a / 2 : (a + 1) / 2;
        int[] ticks = {a, half, a, half + 2, 3 * a, a};
        int[] scratch = {0, 0, b, (a > b ? a : b) / 2, a + b, b / 8};
        int[] over = {0, 0, 1, 0, 1, 1};
        for (int kind = 0; kind < 6; kind++) {
            due("kindTold(" + kind + ", 0, " + a + ", " + b + ")", x.kindTold(kind, 0, a, b), ticks[kind]);
            due("kindTold(" + kind + ", 1, " + a + ", " + b + ")", x.kindTold(kind, 1, a, b), scratch[kind]);
            due("kindTold(" + kind + ", 2, " + a + ", " + b + ")", x.kindTold(kind, 2, a, b), over[kind]);
        }
    }

    private static void copies(int size, int other) {
        for (int i = -1; i < 6; i++) {
            BufferRoom x = new BufferRoom();
            x.sheet(2, 1, size);
            x.sheet(1, 1, other);
            for (int j = -1; j < 6; j++) {
                for (int n = -1; n < 6; n++) {
                    boolean isInside = n >= 0 && i >= 0 && i + n <= size && j >= 0 && j + n <= other;
                    due("copy of " + n + " from " + i + " of " + size + " to " + j + " of " + other,
                        x.copy(2, i, 1, j, n), isInside ? n : -12);
                }
            }
        }
    }

    /** The numbers are 0, 1, 2 .., so that of each two the first one lies where the second one tells. */
    private static void plans(int size) {
        for (int from = -1; from < 9; from++) {
            for (int n = 0; n < 5; n++) {
                if (n == 0 && (from < 0 || from > size)) {
                    continue;
                }
                BufferRoom x = Rooms.with(TWELVE);
                x.sheet(0, 0, size);
                for (int i = 0; i < size; i++) {
                    x.cell(0, i, i);
                }
                String name = n + " from " + from + " of " + size;
                boolean isInside = from >= 0 && from + 2 * n <= size;
                due(name, x.lays(0, 0, from, n), isInside ? n : -12);
                for (int b = 0; b < 12; b++) {
                    boolean came = from >= 0 && b >= from && (b - from) % 2 == 0 && b < from + 2 * n && b + 1 < size;
                    due(name + ": " + b, x.lay(b, -1), came ? b + 1 : -1);
                }
            }
        }
    }

    private static void sheets() {
        for (int sort = -3; sort < 5; sort++) {
            BufferRoom x = new BufferRoom();
            for (int n = -3; n < 44; n++) {
                boolean isSort = sort >= -1 && sort < 3;
                int want = !isSort ? -2 : sort == -1 ? 1 : n > 40 ? -2 : n < 0 ? -14 : 1;
                due("sheet(3, " + sort + ", " + n + ")", x.sheet(3, sort, n), want);
            }
        }
    }
}

/** Promises 31 to 35: sheets, cells, copies, plans by a sheet, what is taken for what. */
final class HostTest {
    private static final Check CHECK = new Check("HostTest");

    public static void main(String[] args) {
        sheets();
        cells();
        copies();
        copiesRefused();
        plans();
        plansRefused();
        taken();
        CHECK.close();
    }

    private static void due(String call, long got, long want) {
        CHECK.due(call, got, want);
    }

    /** Where a BUFFER lies by THE PLAN, which stays as it is. */
    private static int planned(BufferRoom x, int b) {
        int at = x.lay(b, -1);
        x.lay(b, at);
        return at;
    }

    /** What number stands at a place of a SHEET of ints, seen by THE PLAN of the BUFFER 0. */
    private static int number(BufferRoom x, int s, int sort, int i) {
        x.sheet(3, sort, 2);
        x.copy(s, i, 3, 1, 1);
        x.lay(0, -1);
        return x.lays(3, sort, 0, 1) == 1 ? planned(x, 0) : -77;
    }

    private static void sheets() {
        BufferRoom x = new BufferRoom();
        due("-1", x.sheet(-1, 0, 1), -2);
        due("4", x.sheet(4, 0, 1), -2);
        due("sort -2", x.sheet(0, -2, 1), -2);
        due("sort 3", x.sheet(0, 3, 1), -2);
        due("41", x.sheet(0, 0, 41), -2);
        due("-1", x.sheet(0, 0, -1), -14);
        due("least", x.sheet(0, 2, Integer.MIN_VALUE), -14);
        due("bad ahead of -14", x.sheet(0, 3, -1), -2);
        due("bad ahead of -14", x.sheet(4, 0, -1), -2);
        due("it is missing yet", x.cell(0, 0, 0), -11);
        due("40", x.sheet(0, 0, 40), 1);
        due("the last", x.cell(0, 39, 1), 1);
        due("refused", x.sheet(0, 1, -1), -14);
        due("as it was", x.cell(0, 39, 1), 1);
        due("of none", x.sheet(0, 1, 0), 1);
        due("no place", x.cell(0, 0, 1), -12);
        due("missing", x.sheet(0, -1, 99), 1);
        due("missing", x.cell(0, 0, 1), -11);
        due("missing, of a wrong sheet", x.sheet(4, -1, 0), -2);
        Rooms.take(x, "a=1;");
        Rooms.ints(x, 0, 5, 6, 7);
        x.sheet(0, 2, 3);
        due("all 0", number(x, 0, 2, 0), 0);
        due("all 0", number(x, 0, 2, 1), 0);
        Rooms.ints(x, 0, 5, 6, 7);
        x.sheet(0, 2, 1);
        x.sheet(0, 2, 3);
        due("all 0", number(x, 0, 2, 2), 0);
    }

    private static void cells() {
        BufferRoom x = Rooms.with("a=1;");
        x.sheet(0, 0, 3);
        x.sheet(1, 1, 3);
        x.sheet(2, 2, 3);
        due("-1", x.cell(-1, 0, 0), -2);
        due("4", x.cell(4, 0, 0), -2);
        due("place -1", x.cell(0, -1, 0), -12);
        due("place 3", x.cell(0, 3, 0), -12);
        due("place, greatest", x.cell(0, Integer.MAX_VALUE, 0), -12);
        due("missing ahead of its place", x.cell(3, 99, 0), -11);
        int[][] want = {
            {127, 127, 127, 127}, {128, -77, 128, 128}, {255, -1, 255, 255}, {256, 0, 256, 256},
            {32767, -1, 32767, 32767}, {32768, 0, -77, 32768}, {65535, -1, -1, 65535},
            {65537, 1, 1, 65537}, {99999, -97 + 20, -77, 99999}, {100000, -77, -77, -77}, {-1, -1, -1, -1},
            {-2, -77, -77, -77}, {-250, 6, -77, -77}, {-65530, 6, 6, -77},
        };
        for (int[] row : want) {
            for (int sort = 0; sort < 3; sort++) {
                due("a cell", x.cell(sort, 1, row[0]), 1);
                due(row[0] + " of sort " + sort, number(x, sort, sort, 1), row[sort + 1]);
            }
        }
    }

    private static void copies() {
        BufferRoom x = Rooms.with("a=1;");
        Rooms.ints(x, 0, 1, 2, 3, 4, 5, 6);
        x.sheet(1, 2, 4);
        due("copy", x.copy(0, 2, 1, 1, 3), 3);
        int[] want = {0, 3, 4, 5};
        for (int i = 0; i < 4; i++) {
            due("at " + i, number(x, 1, 2, i), want[i]);
        }
        due("up", x.copy(0, 0, 0, 2, 4), 4);
        int[] up = {1, 2, 1, 2, 3, 4};
        for (int i = 0; i < 6; i++) {
            due("up, at " + i, number(x, 0, 2, i), up[i]);
        }
        due("down", x.copy(0, 1, 0, 0, 5), 5);
        int[] down = {2, 1, 2, 3, 4, 4};
        for (int i = 0; i < 6; i++) {
            due("down, at " + i, number(x, 0, 2, i), down[i]);
        }
        due("none", x.copy(0, 6, 1, 4, 0), 0);
    }

    private static void copiesRefused() {
        BufferRoom x = new BufferRoom();
        x.sheet(0, 2, 5);
        x.sheet(1, 1, 5);
        x.sheet(2, 2, 3);
        due("-1", x.copy(-1, 0, 0, 0, 1), -2);
        due("4", x.copy(0, 0, 4, 0, 1), -2);
        due("bad ahead of missing", x.copy(3, 0, 4, 0, 1), -2);
        due("from missing", x.copy(3, 0, 0, 0, 1), -11);
        due("to missing", x.copy(0, 0, 3, 0, 1), -11);
        due("missing ahead of a place", x.copy(0, -1, 3, 0, 1), -11);
        due("unlike", x.copy(0, 0, 1, 0, 1), -13);
        due("unlike ahead of a place", x.copy(1, 99, 0, 0, 1), -13);
        due("n -1", x.copy(0, 0, 2, 0, -1), -12);
        due("n least", x.copy(0, 0, 2, 0, Integer.MIN_VALUE), -12);
        due("i -1", x.copy(0, -1, 2, 0, 1), -12);
        due("j -1", x.copy(0, 0, 2, -1, 1), -12);
        due("i, n", x.copy(0, 3, 2, 0, 3), -12);
        due("j, n", x.copy(0, 0, 2, 1, 3), -12);
        due("i behind", x.copy(0, 6, 2, 0, 0), -12);
        due("j behind", x.copy(0, 0, 2, 4, 0), -12);
        due("greatest", x.copy(0, 1, 2, 1, Integer.MAX_VALUE), -12);
        due("greatest", x.copy(0, Integer.MAX_VALUE, 2, 0, 1), -12);
        due("greatest", x.copy(0, 0, 2, Integer.MAX_VALUE, Integer.MAX_VALUE), -12);
    }

    private static void plans() {
        BufferRoom x = Rooms.with("a=1;b=2;d=3;");
        Rooms.ints(x, 0, 0, 7, 1, 9, 2, 5, 3, 100000, 3, 99999, 1, -1, -1, 4);
        due("two", x.lays(0, 2, 0, 2), 2);
        due("a", planned(x, 0), 7);
        due("b", planned(x, 1), 9);
        due("c isn't there, a place is none", x.lays(0, 2, 4, 2), 0);
        due("d", planned(x, 3), -1);
        due("one, and nowhere, and no buffer", x.lays(0, 2, 8, 3), 2);
        due("d", planned(x, 3), 99999);
        due("b", planned(x, 1), -1);
        due("none", x.lays(0, 2, 0, 0), 0);
        due("from an odd place", x.lays(0, 2, 3, 1), 0);
        Rooms.ints(x, 1, 0, 1, 0, 2, 0, 3);
        due("one three times", x.lays(1, 2, 0, 3), 3);
        due("the last", planned(x, 0), 3);
        x.sheet(2, 0, 40);
        due("twenty", x.lays(2, 0, 0, 20), 20);
    }

    private static void plansRefused() {
        BufferRoom x = Rooms.with("a=1;b=2;");
        Rooms.ints(x, 0, 0, 7, 1, 9, 0);
        x.sheet(1, 0, 5);
        due("-1", x.lays(-1, 2, 0, 1), -2);
        due("4", x.lays(4, 2, 0, 1), -2);
        due("sort -1", x.lays(0, -1, 0, 1), -2);
        due("sort 3", x.lays(0, 3, 0, 1), -2);
        due("n -1", x.lays(0, 2, 0, -1), -2);
        due("n 21", x.lays(0, 2, 0, 21), -2);
        due("bad ahead of missing", x.lays(2, 3, 0, 1), -2);
        due("missing", x.lays(2, 2, 0, 1), -11);
        due("of bytes", x.lays(1, 2, 0, 1), -13);
        due("of ints", x.lays(0, 0, 0, 1), -13);
        due("of ints", x.lays(0, 1, -9, 1), -13);
        due("from -1", x.lays(0, 2, -1, 1), -12);
        due("from 5", x.lays(0, 2, 5, 1), -12);
        due("from 4", x.lays(0, 2, 4, 1), -12);
        due("from the greatest", x.lays(0, 2, Integer.MAX_VALUE, 20), -12);
        due("none came", planned(x, 0), -1);
        due("the third", x.lays(0, 2, 0, 3), -12);
        due("what stood ahead came", planned(x, 0), 7);
        due("what stood ahead came", planned(x, 1), 9);
    }

    private static void taken() {
        BufferRoom x = Rooms.with("a=1;b=1+2;c=1+2+3A;d=1+2+3+4;e=1;f=1;h=1;"
            + "0>a1;1>b1;2>c1;3>d1;4>e1;5>f1;");
        int[][] isOne = {
            {1, 0, 0, 0, 0, 0}, {1, 1, 0, 0, 0, 0}, {1, 0, 1, 0, 0, 0},
            {1, 1, 0, 1, 0, 0}, {1, 0, 1, 0, 1, 0}, {1, 0, 1, 0, 0, 1},
        };
        for (int s = 0; s < 6; s++) {
            for (int kind = 0; kind < 6; kind++) {
                due("taken(0, " + s + ", " + kind + ")", x.taken(0, s, kind),
                    isOne[s][kind] == 1 ? s : -13);
            }
            due("a step taken for a size", x.taken(0, s, 6), -13);
            due("a buffer taken for a step", x.taken(1, s, s), -13);
        }
        int[] terms = {1, 2, 3, 4, 1, 1, -11, 1, -11, -11, -11, -11, -11};
        for (int b = 0; b < terms.length; b++) {
            due("taken(1, " + b + ", 6)", x.taken(1, b, 6), terms[b]);
        }
        due("no step", x.taken(0, 6, 0), -11);
        due("no step, for a size", x.taken(0, 6, 6), -11);
        due("step -1", x.taken(0, -1, 0), -11);
        due("buffer -1", x.taken(1, -1, 6), -11);
        due("no buffer, for a step", x.taken(1, 6, 0), -11);
        due("what 2", x.taken(2, 0, 0), -2);
        due("what -1", x.taken(-1, 0, 0), -2);
        due("kind 7", x.taken(0, 0, 7), -2);
        due("kind -1", x.taken(1, 0, -1), -2);
        due("bad ahead of nothing", x.taken(0, 99, 7), -2);
    }
}

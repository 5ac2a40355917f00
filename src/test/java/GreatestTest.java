/** Where numbers are as great as they can be, SHEETS as long, places as far on. */
final class GreatestTest {
    private static final Check CHECK = new Check("GreatestTest");
    /** A BUFFER of four TERMS, each of 99 of a LETTER of 99. */
    private static final int S = 39204;
    private static final String SIZE = "=99A+99B+99C+99D;";

    public static void main(String[] args) {
        sizes();
        rooms();
        outs();
        ticks();
        tenSteps();
        for (int sort = 0; sort < 3; sort++) {
            copies(sort);
            cells(sort);
            plans(sort);
            lengths(sort);
        }
        leftOut();
        CHECK.close();
    }

    private static void due(String call, long got, long want) {
        CHECK.due(call, got, want);
    }

    /** BUFFERS of S cells each, and what is to follow. */
    private static BufferRoom great(String buffers, String steps) {
        StringBuilder text = new StringBuilder();
        for (char b : buffers.toCharArray()) {
            text.append(b).append(SIZE);
        }
        BufferRoom x = Rooms.with(text.append(steps).toString());
        for (int l = 0; l < 4; l++) {
            x.letter(l, 99);
        }
        return x;
    }

    private static void sizes() {
        BufferRoom x = great("abcdef", "4abcd>e99;2e>f99;f!;");
        for (int b = 0; b < 6; b++) {
            due("size of " + b, x.bufferTold(b, 0), S);
        }
        due("SCRATCH of a SORT", x.stepTold(0, 4), 5 * S);
        due("SCRATCH of a FOLD", x.stepTold(1, 4), S);
        due("TICKS of a SORT", x.stepTold(0, 1), 297);
        due("five that are ALIVE less one, and SCRATCH", x.load(0), 9 * S);
        due("two that are ALIVE less one, and SCRATCH", x.load(1), 2 * S);
        due("PEAK", x.peak(0), 9 * S);
        due("LEAST PEAK", x.leastPeak(-1), 9 * S);
        due("two runs", x.pair(0), 18 * S);
        due("two runs, the second one's first with the first one's second", x.pair(297), 11 * S);
        due("two runs, one behind the other", x.pair(396), 9 * S);
        due("HEIGHT", Rooms.height(x, 0, 1, 2, 3, 4, 4), 6 * S);
        due("where the last one lies", x.heightAt(5), 5 * S);
        due("none is OUT", Rooms.sendOut(x, 99999, 1, 0, 1), -6);
    }

    private static void rooms() {
        BufferRoom x = great("abcdef", "4abcd>e99;2e>f99;f!;");
        due("go", x.go(1), 1);
        due("HIGH", x.roomTold(1, 0), 9 * S);
        due("e lies where a lay", x.roomTold(3, 4), 0);
        x = great("abcdef", "g=0;0a>f0;0>g0;b!;c!;d!;e!;");
        x.go(1);
        due("f above all", x.roomTold(3, 5), -1);
        due("HIGH", x.roomTold(1, 0), 6 * S);
        due("e above four", x.roomTold(3, 4), 4 * S);
        due("the upper end", x.roomTold(2, 0), 5 * S);
        due("the last cell that can be asked for", x.holder(99999), 2);
        due("four are moved down", x.compact(), 4 * S);
        due("e above three", x.roomTold(3, 4), 3 * S);
        due("the upper end", x.roomTold(2, 0), 4 * S);
        due("the last cell that can be asked for", x.holder(99999), 3);
    }

    /** a is OUT four times: READ at each second place. */
    private static void outs() {
        BufferRoom x = great("a", "b=1;c=1;d=1;e=1;f=1;g=1;h=1;i=1;j=1;"
            + "0a>b1;0>c1;0a>d1;0>e1;0a>f1;0>g1;0a>h1;0>i1;0a>j1;");
        due("without it", Rooms.sendOut(x, 99999, 1, 0), 0);
        due("none of it", x.outs(), 0);
        due("a needs room where it is READ", Rooms.sendOut(x, S, 1, 0), -6);
        due("of like ones none", Rooms.sendOut(x, S + 1, 1, 0), 0);
        x = great("a", "b=99D+99D;c=1;d=99D+99D;e=1;f=99D+99D;g=1;0a>c0;0>b0;0a>e0;0>d0;0a>g0;0>f0;a!;");
        due("three are OUT", Rooms.sendOut(x, S + 1, 1, 0), 3 * 2 * S);
        due("a", x.outs(), 1);
        due("by 99", Rooms.sendOut(x, S + 1, 99, 0), 3 * 792);
    }

    private static void ticks() {
        StringBuilder text = new StringBuilder();
        for (char b = 'a'; b <= 'j'; b++) {
            text.append(b).append("=1;4>").append(b).append("99;");
        }
        BufferRoom x = Rooms.with(text.toString());
        due("TICKS of all", x.peak(2), 2970);
        due("behind by one less than are looked at", x.pair(399), 4);
        due("behind by all that are looked at", x.pair(400), 2);
        due("the first number by which they never meet", x.bestPhase(400), 400);
        due("none of those ahead is less", x.bestPhase(399), 0);
    }

    /** Each STEP and BUFFER by itself: STEP s WRITES the BUFFER s, the STEPS told from the last on. */
    private static void tenSteps() {
        StringBuilder text = new StringBuilder("k=50;l=60;");
        for (int s = 0; s < 10; s++) {
            char b = (char) ('a' + s);
            text.append(b).append('=').append(10 + s).append(";2kl>").append(b).append(s + 1).append(';');
        }
        BufferRoom x = Rooms.with(text.toString());
        due("ORDER", Rooms.order(x, 9, 8, 7, 6, 5, 4, 3, 2, 1, 0), 10);
        for (int k = 0; k < 10; k++) {
            int s = 9 - k;
            due("orderTold(" + k + ")", x.orderTold(k), s);
            due("load(" + k + ")", x.load(k), 110 + 2 * (10 + s) - (k == 9 ? 10 : 0));
            due("over(" + k + ")", x.over(k), k == 9 ? 11 : -1);
            due("leastPeak(" + k + ")", x.leastPeak(k), k);
            due("size of " + k, x.bufferTold(k, 0), 10 + k);
            due("STEP of " + k, x.bufferTold(k, 1), k);
            due("from of " + k, x.bufferTold(k, 3), 9 - k);
            due("till of " + k, x.bufferTold(k, 4), 9 - k);
            int[] step = {2, k + 1, k, 2, 10 + k, 1, 10, 11, -7, -7, -7};
            for (int what = 0; what < step.length; what++) {
                due("stepTold(" + k + ", " + what + ")", x.stepTold(k, what), step[what]);
            }
        }
        for (int k = 10; k < 13; k++) {
            due("orderTold(" + k + ")", x.orderTold(k), -5);
            due("load(" + k + ")", x.load(k), -5);
            due("over(" + k + ")", x.over(k), -5);
            due("leastPeak(" + k + ")", x.leastPeak(k), -5);
            due("stepTold(" + k + ", 0)", x.stepTold(k, 0), -5);
        }
        due("LEAST PEAK", x.leastPeak(-1), 110 + 2 * 18);
        due("HEAPS", x.leastPeak(-2), 1024);
        due("k till the last", x.bufferTold(10, 4), 9);
        due("l till the last", x.bufferTold(11, 4), 9);
    }

    // ---- the host

    /** Number i of a SHEET that is told by counted(). */
    private static int number(int i) {
        return i * 3 + 1;
    }

    private static BufferRoom counted(int sort) {
        BufferRoom x = Rooms.with("a=1;");
        x.sheet(0, sort, 40);
        x.sheet(1, sort, 40);
        for (int i = 0; i < 40; i++) {
            due("cell(0, " + i + ", ..)", x.cell(0, i, number(i)), 1);
        }
        return x;
    }

    /** Number i of a SHEET, by a SHEET of two. */
    private static int read(BufferRoom x, int s, int sort, int i) {
        x.sheet(3, sort, 2);
        x.copy(s, i, 3, 1, 1);
        x.lays(3, sort, 0, 1);
        return x.lay(0, -1);
    }

    private static void copies(int sort) {
        String of = "sort " + sort + ", ";
        BufferRoom x = counted(sort);
        due(of + "41", x.copy(0, 0, 1, 0, 41), -12);
        due(of + "40 from 1", x.copy(0, 1, 1, 0, 40), -12);
        due(of + "40 to 1", x.copy(0, 0, 1, 1, 40), -12);
        due(of + "from 40", x.copy(0, 40, 1, 0, 1), -12);
        due(of + "to 40", x.copy(0, 0, 1, 40, 1), -12);
        due(of + "two from 39", x.copy(0, 39, 1, 0, 2), -12);
        due(of + "two to 39", x.copy(0, 0, 1, 39, 2), -12);
        due(of + "nothing came", read(x, 1, sort, 39), 0);
        due(of + "the last to the first", x.copy(0, 39, 1, 0, 1), 1);
        due(of + "the first to the last", x.copy(0, 0, 1, 39, 1), 1);
        due(of + "the last to the first", read(x, 1, sort, 0), number(39));
        due(of + "the first to the last", read(x, 1, sort, 39), number(0));
        due(of + "none else", read(x, 1, sort, 1) + read(x, 1, sort, 38), 0);
        copyAll(of + "all", sort, 0, 1, 0, 40);
        copyAll(of + "39 up", sort, 0, 0, 1, 39);
        copyAll(of + "39 down", sort, 1, 0, 0, 39);
        copyAll(of + "20 up", sort, 5, 0, 12, 20);
        copyAll(of + "20 down", sort, 12, 0, 5, 20);
        copyAll(of + "onto itself", sort, 0, 0, 0, 40);
        copyAll(of + "20 of it beside", sort, 0, 0, 20, 20);
    }

    private static void copyAll(String name, int sort, int from, int other, int to, int n) {
        BufferRoom x = counted(sort);
        due(name, x.copy(0, from, other, to, n), n);
        for (int i = 0; i < 40; i++) {
            boolean isIn = i >= to && i < to + n;
            int asItWas = other == 0 ? number(i) : 0;
            due(name + ": number " + i, read(x, other, sort, i), isIn ? number(i - to + from) : asItWas);
        }
    }

    private static void cells(int sort) {
        int[] told = {
            Integer.MIN_VALUE, -65536, -65535, -32769, -32768, -257, -256, -255, -129, -128, -2, -1, 0, 1, 127, 128,
            129, 255, 256, 257, 32767, 32768, 65535, 65536, 65537, 99999, 100000, Integer.MAX_VALUE,
        };
        for (int v : told) {
            BufferRoom x = Rooms.with("a=1;");
            x.sheet(0, sort, 2);
            due("cell(0, 1, " + v + ")", x.cell(0, 1, v), 1);
            int due = sort == 0 ? (byte) v : sort == 1 ? (short) v : v;
            boolean isPlace = due >= -1 && due <= 99999;
            due(v + " of sort " + sort + " is a place", x.lays(0, sort, 0, 1), isPlace ? 1 : 0);
            due(v + " of sort " + sort, x.lay(0, -1), isPlace ? due : -1);
        }
    }

    /** Of each length, one after the other. */
    private static void lengths(int sort) {
        for (int s = 0; s < 4; s++) {
            BufferRoom x = new BufferRoom();
            for (int n = 40; n >= 0; n--) {
                due("sheet of " + n, x.sheet(s, sort, n), 1);
                due("the last of " + n, x.cell(s, n - 1, 7), n > 0 ? 1 : -12);
                due("one more than " + n, x.cell(s, n, 7), -12);
                due("copy of " + n, x.copy(s, 0, s, 0, n), n);
                due("copy of one more than " + n, x.copy(s, 0, s, 0, n + 1), -12);
            }
        }
    }

    /** Two by two, up to the end of a SHEET. */
    private static void plans(int sort) {
        BufferRoom x = Rooms.with("a=1;b=1;c=1;d=1;e=1;f=1;g=1;h=1;i=1;j=1;k=1;l=1;");
        x.sheet(0, sort, 40);
        for (int i = 0; i < 20; i++) {
            x.cell(0, 2 * i, i % 12);
            x.cell(0, 2 * i + 1, i + 1);
        }
        due("none from 38", x.lays(0, sort, 38, 0), 0);
        due("one from 38", x.lays(0, sort, 38, 1), 1);
        due("its place", x.lay(7, -1), 20);
        due("two from 38", x.lays(0, sort, 38, 2), -12);
        due("the first one came", x.lay(7, -1), 20);
        due("one from 39", x.lays(0, sort, 39, 1), -12);
        due("one from 37", x.lays(0, sort, 37, 1), 0);
        due("nineteen from 2", x.lays(0, sort, 2, 19), 19);
        due("a came by the thirteenth", x.lay(0, -1), 13);
        due("nineteen from 4", x.lays(0, sort, 4, 19), -12);
        due("twenty", x.lays(0, sort, 0, 20), 20);
        for (int b = 0; b < 12; b++) {
            due("of two the later one, of " + b, x.lay(b, -1), b < 8 ? b + 13 : b + 1);
        }
    }

    /** Of three one that is no BUFFER, or whose place is none, wherever it stands; the others come. */
    private static void leftOut() {
        int[][] wrong = {{-1, 5}, {12, 5}, {3, 5}, {11, 5}, {0, -2}, {1, 100000}, {2, Integer.MAX_VALUE}, {32, 5}};
        for (int[] two : wrong) {
            for (int place = 0; place < 3; place++) {
                BufferRoom x = Rooms.with("a=1;b=1;c=1;");
                int[] numbers = {0, 10, 1, 11, 2, 12};
                numbers[2 * place] = two[0];
                numbers[2 * place + 1] = two[1];
                Rooms.ints(x, 0, numbers);
                String name = two[0] + " at " + two[1] + " as pair " + place;
                due(name, x.lays(0, 2, 0, 3), 2);
                for (int b = 0; b < 3; b++) {
                    due(name + ": " + b, x.lay(b, -1), b == place ? -1 : 10 + b);
                }
                due(name + ", and one outside", x.lays(0, 2, 0, 4), -12);
                for (int b = 0; b < 3; b++) {
                    due(name + ", and one outside: " + b, x.lay(b, -1), b == place ? -1 : 10 + b);
                }
            }
        }
    }
}

/** The edges that Terms 4 names: holes, steps, HIGH, moved down, an image, rows of numbers. */
final class TermsOfRoomTest {
    private static final Check CHECK = new Check("TermsOfRoomTest");

    public static void main(String[] args) {
        holesOfOneCell();
        holesThatFit();
        holesOfLikeOnes();
        holesAndNoCells();
        holesAtTheLastLetter();
        holesOfEachWidth();
        given();
        overThatIsAsGreat();
        overIsTheLeastNumber();
        high();
        noLongerLying();
        stepsAtOnce();
        movedDown();
        movedDownOfLikeOnes();
        holders();
        imageKeeps();
        imageAndOrders();
        rowsOfNumbers();
        CHECK.close();
    }

    private static void due(String call, long got, long want) {
        CHECK.due(call, got, want);
    }

    /** Where a BUFFER lies behind so many STEPS, by each of the rules. */
    private static void lies(String text, int letter, int steps, int b, int first, int tightest, int widest) {
        int[] want = {first, tightest, widest};
        for (int rule = 0; rule < 3; rule++) {
            BufferRoom x = Rooms.with(text);
            x.letter(0, letter);
            x.rule(rule);
            x.go(steps);
            due(text + " A is " + letter + ", rule " + rule, x.roomTold(3, b), want[rule]);
        }
    }

    // ---- holes

    private static void holesOfOneCell() {
        // behind the first STEP b lies at 1 .. 2: a HOLE of one cell
        String one = "a=1;b=2;c=1A;d=0;e=0;0a>d1;0>c1;0bc>e1;";
        lies(one, 0, 2, 2, 0, 0, 0);
        lies(one, 1, 2, 2, 0, 0, 0);
        lies(one, 2, 2, 2, 3, 3, 3);
        // b lies at 0 .. 1: a HOLE of no cells is none
        String none = "a=0;b=2;c=1A;d=0;e=0;0a>d1;0>c1;0bc>e1;";
        lies(none, 0, 2, 2, 2, 2, 2);
        lies(none, 1, 2, 2, 2, 2, 2);
        // between b and c, of which one ends where the other one begins, there is none
        String between = "a=3;b=2;c=2;d=1A;e=0;f=0;0a>e1;0>d1;0bcd>f1;";
        lies(between, 0, 2, 3, 0, 0, 0);
        lies(between, 3, 2, 3, 0, 0, 0);
        lies(between, 4, 2, 3, 7, 7, 7);
        // nothing lies
        String nothing = "a=1A;0>a1;";
        BufferRoom x = Rooms.with("a=1A;b=0;a!;0>a1;0>b1;");
        x.go(1);
        due("nothing lay", x.roomTold(3, 0), 0);
        lies(nothing, 5, 1, 0, -1, -1, -1);
    }

    /** HOLES of 2 cells at 0, of 1 at 3, of 4 at 5 (b, d, f lie at 2, 4, 9), all above 10. */
    private static void holesThatFit() {
        String text = "a=2;b=1;c=1;d=1;e=4;f=1;g=1A;h=0;i=0;0ace>h1;0>g1;0bdfg>i1;";
        lies(text, 0, 2, 6, 0, 3, 5);
        lies(text, 1, 2, 6, 0, 3, 5);
        lies(text, 2, 2, 6, 0, 0, 5);
        lies(text, 3, 2, 6, 5, 5, 5);
        lies(text, 4, 2, 6, 5, 5, 5);
        lies(text, 5, 2, 6, 10, 10, 10);
        lies(text, 99, 2, 6, 10, 10, 10);
    }

    private static void holesOfLikeOnes() {
        // HOLES of 2, 3, 2, 3 cells at 0, 3, 7, 10
        String text = "a=2;b=1;c=3;d=1;e=2;f=1;g=3;h=1;i=1A;j=0;k=0;0aceg>j1;0>i1;0bdfh>k1;i!;";
        lies(text, 0, 2, 8, 0, 0, 3);
        lies(text, 2, 2, 8, 0, 0, 3);
        lies(text, 3, 2, 8, 3, 3, 3);
        lies(text, 4, 2, 8, 14, 14, 14);
    }

    private static void holesAndNoCells() {
        // behind the first STEP b lies at 2 and has no cells, d lies at 4: the HOLE is 0 .. 3
        String text = "a=2;b=0;c=2;d=1;e=1A;f=0;g=0;0ac>f1;0>e1;0bde>g1;";
        BufferRoom x = Rooms.with(text);
        x.go(1);
        CHECK.dueAll("behind the first", Rooms.lying(x, 7), -1, 2, -1, 4, -1, -1, -1);
        lies(text, 2, 2, 4, 0, 0, 0);
        lies(text, 3, 2, 4, 0, 0, 0);
        lies(text, 4, 2, 4, 0, 0, 0);
        lies(text, 5, 2, 4, 5, 5, 5);
        // above all is above all cells, though one of none lies higher
        x = Rooms.with("a=5;b=0;c=2;d=0;e=0;0a>d1;0>c1;0bc>e1;");
        x.go(1);
        CHECK.dueAll("behind the first", Rooms.lying(x, 3), -1, 5, -1);
        due("the upper end", x.roomTold(2, 0), 5);
        x.go(1);
        CHECK.dueAll("above all cells", Rooms.lying(x, 3), -1, 5, 0);
    }

    private static void holesAtTheLastLetter() {
        // twelve lie at once, each of one cell, the last one highest
        StringBuilder text = new StringBuilder();
        for (char b = 'a'; b <= 'l'; b++) {
            text.append(b).append("=1;").append(b).append("!;");
        }
        BufferRoom x = Rooms.with(text + "0>a1;0>c1;");
        x.go(1);
        CHECK.dueAll("eleven", Rooms.lying(x, 12), 10, 0, -1, 1, 2, 3, 4, 5, 6, 7, 8, 9);
        due("l holds", x.holder(9), 11);
        due("the upper end", x.roomTold(2, 0), 11);
        due("high", x.roomTold(1, 0), 11);
        x.image();
        x.go(1);
        due("all went", x.roomTold(3, 11), -1);
        due("high", x.roomTold(1, 0), 12);
        x.back();
        CHECK.dueAll("eleven again", Rooms.lying(x, 12), 10, 0, -1, 1, 2, 3, 4, 5, 6, 7, 8, 9);
        x.again();
        due("nothing lies", x.roomTold(3, 11), -1);
        x = Rooms.with("a=1;l=2;k=0;j=0;0a>k1;0>j1;l!;");
        x.go(1);
        due("behind a", x.roomTold(3, 11), 1);
        due("its upper end", x.roomTold(2, 0), 3);
        due("moved down", x.compact(), 2);
        due("l", x.roomTold(3, 11), 0);
        x = Rooms.with("a=3;l=2;k=3;j=0;0a>k1;0k>l1;0l>j1;");
        x.go(1);
        due("k", x.roomTold(3, 10), 3);
        x.go(1);
        due("into the HOLE", x.roomTold(3, 11), 0);
    }

    // ---- steps

    /** Three HOLES of A, B, C cells with a cell between, and one of D cells that is to be laid. */
    private static void holesOfEachWidth() {
        for (int rule = 0; rule < 3; rule++) {
            for (int a = 0; a < 12; a++) {
                for (int b = 0; b < 12; b++) {
                    holesOfEachWidth(rule, a, b);
                }
            }
        }
    }

    private static void holesOfEachWidth(int rule, int a, int b) {
        BufferRoom x = Rooms.with("a=1A;b=1;c=1B;d=1;e=1C;f=1;g=0;h=1D;i=0;b!;d!;f!;0ace>g0;0>h0;0h>i0;");
        x.rule(rule);
        x.letter(0, a);
        x.letter(1, b);
        for (int c = 0; c < 12; c += 3) {
            x.letter(2, c);
            for (int d = 0; d < 14; d++) {
                x.letter(3, d);
                x.go(2);
                String by = "rule " + rule + ", HOLES of " + a + ", " + b + ", " + c + ", one of " + d;
                due(by, x.roomTold(3, 7), laid(rule, d, a, b, c));
                x.again();
            }
        }
    }

    private static int laid(int rule, int size, int... widths) {
        int from = 0;
        int chosen = -1;
        int width = 0;
        for (int hole : widths) {
            boolean isBetter = chosen < 0 || rule == 1 && hole < width || rule == 2 && hole > width;
            if (hole > 0 && hole >= size && isBetter) {
                chosen = from;
                width = hole;
            }
            from += hole + 1;
        }
        return chosen < 0 ? from : chosen;
    }

    private static void given() {
        // b is never ALIVE, c is READ at the last place, e is WANTED and never READ, f is WRITTEN
        BufferRoom x = Rooms.with("a=1;b=2;c=3;d=4;e=5;f=6;g=0;e!;0a>f1;0>g1;0c>d1;");
        x.go(1);
        CHECK.dueAll("by numbers", Rooms.lying(x, 7), -1, -1, 1, -1, 4, -1, -1);
        due("f lay above all", x.roomTold(1, 0), 15);
        x = Rooms.with("a=1;b=2;a!;b!;");
        due("no STEPS", x.roomTold(3, 0), -1);
        due("none goes", x.go(1), -3);
    }

    /** The one OVER has 6 cells and lies at 4 .. 9; what is WRITTEN has so many. */
    private static void overThatIsAsGreat() {
        int[] where = {4, 4, 4, 11, 11};
        int[] high = {11, 16, 17, 18 + 7, 19 + 8};
        int[] cells = {0, 5, 6, 7, 8};
        for (int i = 0; i < cells.length; i++) {
            BufferRoom x = Rooms.with("a=4;b=6;c=1A;d=1;e=1;0a>d1;2b>c1;0cd>e1;");
            x.letter(0, cells[i]);
            x.go(1);
            CHECK.dueAll("ahead", Rooms.lying(x, 4), -1, 4, -1, 10);
            x.go(1);
            CHECK.dueAll("WRITTEN: " + cells[i], Rooms.lying(x, 4), -1, -1, where[i], 10);
            due("HIGH by " + cells[i], x.roomTold(1, 0), high[i]);
        }
        // as great, but WANTED: it isn't OVER
        BufferRoom x = Rooms.with("a=4;b=6;c=6;d=1;e=1;b!;0a>d1;2b>c1;0cd>e1;");
        x.go(2);
        CHECK.dueAll("WANTED", Rooms.lying(x, 4), -1, 4, 11, 10);
        // as great, but READ at the next place, too
        x = Rooms.with("a=4;b=6;c=6;d=1;e=1;0a>d1;2b>c1;0bcd>e1;");
        x.go(2);
        CHECK.dueAll("READ later", Rooms.lying(x, 4), -1, 4, 11, 10);
        // as great, but no STEP that is OVER
        x = Rooms.with("a=4;b=6;c=6;d=1;e=1;0a>d1;1b>c1;0cd>e1;");
        x.go(2);
        CHECK.dueAll("a COPY", Rooms.lying(x, 4), -1, -1, 11, 10);
        // both of no cells
        x = Rooms.with("a=4;b=0;c=0;d=1;e=1;0a>d1;2b>c1;0cd>e1;");
        x.go(2);
        CHECK.dueAll("no cells", Rooms.lying(x, 4), -1, -1, 4, 4);
    }

    private static void overIsTheLeastNumber() {
        // the BUFFER 0 is OVER, at 0; the BUFFER 1 is as great
        BufferRoom x = Rooms.with("a=3;b=3;c=2;d=0;2ab>c1;0c>d1;");
        x.go(1);
        CHECK.dueAll("where a lay", Rooms.lying(x, 4), -1, -1, 0, -1);
        due("high", x.roomTold(1, 0), 6 + 2);
        x = Rooms.with("a=3;b=4;c=2;d=0;2ab>c1;0c>d1;");
        x.go(1);
        CHECK.dueAll("where b lay", Rooms.lying(x, 4), -1, -1, 3, -1);
    }

    private static void high() {
        // 5; 5 again; 6: SCRATCH is no cell that lies
        BufferRoom x = Rooms.with("a=5;b=5;c=3;d=1;0>a1;0>b1;2>c1;0>d1;");
        int[] want = {5, 5, 6, 6};
        for (int k = 0; k < want.length; k++) {
            x.go(1);
            due("HIGH behind " + k, x.roomTold(1, 0), want[k]);
        }
        due("again", x.again(), 4);
        due("0 again", x.roomTold(1, 0), 0);
        // by what lies ahead of being ALIVE no more, and with a HOLE in it
        x = Rooms.with("a=4;b=1;c=1;d=0;0a>d1;0b>c1;");
        x.go(1);
        due("HIGH", x.roomTold(1, 0), 5);
        due("now", x.roomTold(2, 0), 5);
        x.go(1);
        due("into the HOLE", x.roomTold(1, 0), 5);
        due("now", x.roomTold(2, 0), 0);
        due("of no cells", goneAll("a=0;0>a1;").roomTold(1, 0), 0);
        // the greatest of all: 3 of 39204 that lie, and a SORT
        x = Rooms.with("a=99A+99A+99A+99A;b=99A+99A+99A+99A;c=99A+99A+99A+99A;4ab>c1;c!;");
        x.letter(0, 99);
        x.go(1);
        due("three lie, less one OVER, and three of SCRATCH", x.roomTold(1, 0), 5 * 39204);
    }

    private static BufferRoom goneAll(String text) {
        BufferRoom x = Rooms.with(text);
        x.go(x.count(0));
        return x;
    }

    private static void noLongerLying() {
        // TILL 0, 1, 2 of places 0 .. 2
        BufferRoom x = Rooms.with("a=1;b=1;c=1;d=0;e=0;f=0;0a>d1;0b>e1;0c>f1;");
        int[][] want = {{-1, 1, 2}, {-1, -1, 2}, {-1, -1, -1}};
        for (int k = 0; k < 3; k++) {
            x.go(1);
            CHECK.dueAll("behind " + k, Rooms.lying(x, 3), want[k]);
        }
        // WANTED ones lie until the last STEP went, too
        x = Rooms.with("a=1;b=1;a!;b!;0>a1;0>b1;");
        x.go(1);
        due("ALIVE TILL the last place", x.roomTold(3, 0), 0);
        x.go(1);
        due("it went", x.roomTold(3, 0), -1);
        due("it went", x.roomTold(3, 1), -1);
    }

    private static void stepsAtOnce() {
        StringBuilder text = new StringBuilder("l=2;");
        for (char b = 'a'; b <= 'j'; b++) {
            text.append(b).append("=1;0l>").append(b).append("1;");
        }
        BufferRoom x = Rooms.with(text.toString());
        due("eleven of ten", x.go(11), -3);
        due("twelve of ten", x.go(12), -3);
        due("none went", x.roomTold(0, 0), 0);
        due("ten", x.go(10), 10);
        x.again();
        due("nine", x.go(9), 9);
        due("l lies", x.roomTold(3, 11), 0);
        due("two of one", x.go(2), -3);
        due("l lies", x.roomTold(3, 11), 0);
        due("one", x.go(1), 10);
        due("l lies no more", x.roomTold(3, 11), -1);
        due("one of none", x.go(1), -3);
    }

    // ---- moved down, who holds

    private static void movedDown() {
        // b at 3, d at 9, f at 14: 1, 2, 3 cells
        BufferRoom x = Rooms.with("a=3;b=1;c=5;d=2;e=3;f=3;h=0;i=0;0ace>h1;0bdf>i1;");
        x.go(1);
        CHECK.dueAll("ahead", Rooms.lying(x, 6), -1, 3, -1, 9, -1, 14);
        due("all", x.compact(), 6);
        CHECK.dueAll("behind", Rooms.lying(x, 6), -1, 0, -1, 1, -1, 3);
        due("none lies elsewhere then", x.compact(), 0);
        due("the upper end", x.roomTold(2, 0), 6);
        due("HIGH stays", x.roomTold(1, 0), 17);
        due("the place stays", x.roomTold(0, 0), 1);
        // the lowest one stays where it is
        x = Rooms.with("a=3;b=1;c=2;h=0;i=0;0b>h1;0ac>i1;");
        x.go(1);
        due("one of two", x.compact(), 2);
        CHECK.dueAll("behind", Rooms.lying(x, 3), 0, -1, 3);
        // the lowest first: the greater number lies lower
        x = Rooms.with("a=4;b=2;c=1;d=5;e=0;0d>b1;0>a1;0ab>e1;");
        x.go(2);
        CHECK.dueAll("ahead", Rooms.lying(x, 4), 0, 5, -1, -1);
        x = Rooms.with("a=4;b=5;c=3;e=0;0b>a1;0>c1;0ac>e1;");
        x.go(2);
        CHECK.dueAll("ahead", Rooms.lying(x, 3), 5, -1, 0);
        due("a comes down on c", x.compact(), 4);
        CHECK.dueAll("behind", Rooms.lying(x, 3), 3, -1, 0);
    }

    private static void movedDownOfLikeOnes() {
        // b (of no cells) and c lie at 2
        BufferRoom x = Rooms.with("a=2;b=0;c=2;d=0;e=0;0a>d1;0bc>e1;");
        x.go(1);
        CHECK.dueAll("ahead", Rooms.lying(x, 3), -1, 2, 2);
        due("moved", x.compact(), 2);
        CHECK.dueAll("the least is first", Rooms.lying(x, 3), -1, 0, 0);
        // b and k (of no cells) lie at 2
        x = Rooms.with("a=2;k=0;b=2;e=0;0a>b1;0bk>e1;");
        x.go(1);
        due("b ahead", x.roomTold(3, 1), 2);
        due("k ahead", x.roomTold(3, 10), 2);
        due("moved", x.compact(), 2);
        due("b is the least", x.roomTold(3, 1), 0);
        due("k lies on it", x.roomTold(3, 10), 2);
        due("no more", x.compact(), 0);
    }

    private static void holders() {
        // a at 0 .. 38, l behind it
        BufferRoom x = Rooms.with("a=39;l=2;b=0;c=0;d=0;0al>b1;0>c1;0al>d1;");
        due("nothing lies", x.holder(0), -1);
        x.go(1);
        int[][] want = {{0, 0}, {38, 0}, {39, 11}, {40, 11}, {41, -1}, {99999, -1}};
        for (int[] cell : want) {
            due("holder(" + cell[0] + ")", x.holder(cell[0]), cell[1]);
        }
        // cells up to 117611
        String great = "=99A+99A+99A+99A;";
        x = Rooms.with("a" + great + "b" + great + "c" + great + "d=0;e=0;0abc>d1;0abc>e1;");
        x.letter(0, 99);
        x.go(1);
        due("the last cell that can be asked for", x.holder(99999), 2);
        due("one more", x.holder(100000), -2);
        due("b's last", x.holder(2 * 39204 - 1), 1);
        due("c's first", x.holder(2 * 39204), 2);
        due("the upper end", x.roomTold(2, 0), 3 * 39204);
    }

    // ---- an image

    private static void imageKeeps() {
        BufferRoom x = Rooms.with("a=1A;b=1B;c=1C;d=1D;e=1;0a>b1;0bc>d1;0d>e1;");
        for (int l = 0; l < 4; l++) {
            x.letter(l, 5 + l);
        }
        x.rule(2);
        x.go(1);
        int[] lying = Rooms.lying(x, 5);
        int high = x.roomTold(1, 0);
        due("the place", x.image(), 1);
        x.go(2);
        x.again();
        x.rule(0);
        for (int l = 0; l < 4; l++) {
            x.letter(l, 50);
        }
        x.go(3);
        due("the place", x.back(), 1);
        due("the place", x.roomTold(0, 0), 1);
        due("HIGH", x.roomTold(1, 0), high);
        due("HIGH", high, 5 + 7 + 6);
        due("the rule", x.roomTold(4, 0), 2);
        CHECK.dueAll("what lies where", Rooms.lying(x, 5), lying);
        for (int l = 0; l < 4; l++) {
            due("a LETTER", x.count(4 + l), 5 + l);
            due("a size", x.bufferTold(l, 0), 5 + l);
        }
        due("a load", x.load(1), 6 + 7 + 8);
        due("least peak", x.leastPeak(-1), 21);
        // it is kept yet, and a later one takes its place
        x.go(1);
        due("again", x.back(), 1);
        x.go(1);
        due("a later one", x.image(), 2);
        x.again();
        due("the later one", x.back(), 2);
        // not kept: THE ORDER, THE PLAN, what was found
        x.lay(0, 7);
        x.back();
        due("THE PLAN", x.lay(0, -1), 7);
    }

    private static void imageAndOrders() {
        BufferRoom x = Rooms.with("a=3;b=4;c=5;d=0;0>a1;0>b1;0>c1;0abc>d1;");
        x.go(2);
        x.image();
        x.again();
        due("another ORDER", Rooms.order(x, 2, 1, 0, 3), 4);
        due("back", x.back(), 2);
        CHECK.dueAll("as they lay", Rooms.lying(x, 4), 0, 3, -1, -1);
        CHECK.dueAll("as it was told", Rooms.orderTold(x), 2, 1, 0, 3);
        due("told", x.count(3), 1);
    }

    // ---- rows of numbers

    /** A number of a sort, seen as a place of THE PLAN. */
    private static int kept(int sort, int v) {
        BufferRoom x = Rooms.with("a=1;");
        x.sheet(0, sort, 2);
        x.cell(0, 1, v);
        x.lay(0, 77);
        return x.lays(0, sort, 0, 1) == 1 ? x.lay(0, -1) : -2;
    }

    private static void rowsOfNumbers() {
        int[][] want = {
            {0, 0, 0, 0}, {1, 1, 1, 1}, {-1, -1, -1, -1}, {127, 127, 127, 127}, {128, -2, 128, 128},
            {254, -2, 254, 254}, {255, -1, 255, 255}, {256, 0, 256, 256}, {257, 1, 257, 257},
            {-128, -2, -2, -2}, {-129, 127, -2, -2}, {-256, 0, -2, -2}, {-257, -1, -2, -2},
            {32767, -1, 32767, 32767}, {32768, 0, -2, 32768}, {65535, -1, -1, 65535}, {65536, 0, 0, 65536},
            {65663, 127, 127, 65663}, {99999, -2, -2, 99999}, {100000, -2, -2, -2}, {-32769, -1, 32767, -2},
            {Integer.MAX_VALUE, -1, -1, -2}, {Integer.MIN_VALUE, 0, 0, -2}, {Integer.MIN_VALUE + 5, 5, 5, -2},
        };
        for (int[] row : want) {
            for (int sort = 0; sort < 3; sort++) {
                due(row[0] + " of sort " + sort, kept(sort, row[0]), row[sort + 1]);
            }
        }
        BufferRoom x = Rooms.with("a=1;");
        for (int s = 0; s < 4; s++) {
            due("missing at first", x.cell(s, 0, 0), -11);
            due("40 of them", x.sheet(s, s % 3, 40), 1);
            due("the last", x.cell(s, 39, 1), 1);
            due("behind it", x.cell(s, 40, 1), -12);
            due("41 of them", x.sheet(s, s % 3, 41), -2);
        }
    }
}

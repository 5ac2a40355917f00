/** Promises 21 to 28: the rule, steps, moved down, what lies where, images. */
final class WalkTest {
    /** Behind the first step b, d, f lie at 3, 9, 14: HOLES of 3, 5, 4 cells. */
    private static final String HOLES = "a=3;b=1;c=5;d=1;e=4;f=1;g=1A;h=0;"
        + "0ace>h1;0>g1;0bdfg>i1;";
    private static final Check CHECK = new Check("WalkTest");

    public static void main(String[] args) {
        rules();
        steps();
        stepsRefused();
        given();
        overWritten();
        highs();
        noCells();
        downs();
        told();
        holders();
        images();
        imagesOfOrders();
        CHECK.close();
    }

    private static void due(String call, long got, long want) {
        CHECK.due(call, got, want);
    }

    private static BufferRoom holes() {
        return Rooms.with("i=1;" + HOLES);
    }

    private static void rules() {
        int[] firsts = {0, 0, 0, 0, 4, 4, 15};
        int[] tightests = {0, 0, 0, 0, 10, 4, 15};
        int[] widests = {4, 4, 4, 4, 4, 4, 15};
        for (int cells = 0; cells < 7; cells++) {
            int[][] want = {firsts, tightests, widests};
            for (int rule = 0; rule < 3; rule++) {
                BufferRoom x = holes();
                x.letter(0, cells);
                x.rule(rule);
                x.go(1);
                CHECK.dueAll("behind the first", Rooms.lying(x, 8), -1, 3, -1, 9, -1, 14, -1, -1);
                x.go(1);
                due("rule " + rule + ", " + cells + " cells", x.roomTold(3, 6), want[rule][cells]);
            }
        }
        // of like ones the first: HOLES of 2, 2 cells
        for (int rule = 0; rule < 3; rule++) {
            BufferRoom x = Rooms.with("a=2;b=1;c=2;d=1;e=2;f=1;g=1;0ac>f1;0>e1;0bde>g1;");
            x.rule(rule);
            x.go(2);
            due("of like ones by rule " + rule, x.roomTold(3, 4), 0);
        }
        BufferRoom x = new BufferRoom();
        due("rule", x.rule(2), 0);
        due("rule", x.rule(1), 2);
        due("3", x.rule(3), -2);
        due("-1", x.rule(-1), -2);
        due("it stays", Rooms.take(x, "a=1;"), 0);
        due("as it was", x.rule(0), 1);
    }

    private static void steps() {
        BufferRoom x = Rooms.with("a=10;b=6A;c=4+2B;d=8;e=5;0a>b3;2b>c4;1a>d9;4cd>e2;e!;");
        due("one", x.go(1), 1);
        CHECK.dueAll("lie", Rooms.lying(x, 5), 0, 10, -1, -1, -1);
        due("high", x.roomTold(1, 0), 16);
        due("two more", x.go(2), 3);
        CHECK.dueAll("lie", Rooms.lying(x, 5), -1, -1, 10, 16, -1);
        due("high", x.roomTold(1, 0), 24);
        due("no more than there are", x.go(2), -3);
        due("the last", x.go(1), 4);
        CHECK.dueAll("lie", Rooms.lying(x, 5), -1, -1, -1, -1, -1);
        due("high", x.roomTold(1, 0), 21 + 19);
        due("no more", x.go(1), -3);
        due("again", x.again(), 4);
        due("again", x.again(), 0);
        due("high", x.roomTold(1, 0), 0);
        due("all", x.go(4), 4);
        due("high", x.roomTold(1, 0), 40);
    }

    private static void stepsRefused() {
        BufferRoom x = Rooms.with("a=1;b=1;0>a1;0>b1;");
        due("0", x.go(0), -2);
        due("13", x.go(13), -2);
        due("-1", x.go(-1), -2);
        due("12", x.go(12), -3);
        due("3", x.go(3), -3);
        due("the place", x.roomTold(0, 0), 0);
        due("2", x.go(2), 2);
        due("a program", Rooms.take(x, "a=1;0>a1;"), 1);
        due("the place", x.roomTold(0, 0), 0);
        due("high", x.roomTold(1, 0), 0);
        x.go(1);
        due("a fault", Rooms.take(x, "?"), -100);
        due("the place", x.roomTold(0, 0), 1);
        BufferRoom round = Rooms.with("a=1;b=2;0b>a1;0a>b1;");
        due("state", round.go(1), -3);
        due("bad ahead of state", round.go(0), -2);
    }

    private static void given() {
        // c is never ALIVE, d is wanted and never read
        BufferRoom x = Rooms.with("a=4;b=3;c=2;d=1;e=5;f=1;d!;0b>e1;0a>f1;");
        x.go(1);
        CHECK.dueAll("by numbers", Rooms.lying(x, 6), 0, -1, -1, 7, -1, -1);
        due("e stood above all", x.roomTold(1, 0), 13);
        due("now", x.roomTold(2, 0), 8);
        x.again();
        Rooms.order(x, 1, 0);
        x.go(1);
        CHECK.dueAll("by the order told", Rooms.lying(x, 6), -1, 4, -1, 7, -1, -1);
    }

    private static void overWritten() {
        BufferRoom x = Rooms.with("a=4;b=6;c=6;d=1;e=1;0a>d1;2b>c1;0cd>e1;");
        x.go(1);
        CHECK.dueAll("ahead", Rooms.lying(x, 5), -1, 4, -1, 10, -1);
        x.go(1);
        CHECK.dueAll("where the one lay", Rooms.lying(x, 5), -1, -1, 4, 10, -1);
        due("high", x.roomTold(1, 0), 11 + 6);
        // greater than the one OVER: it is laid as any other one
        x = Rooms.with("a=7;b=6;c=7;d=1;e=1;0a>d1;2b>c1;0cd>e1;");
        x.go(2);
        CHECK.dueAll("laid", Rooms.lying(x, 5), -1, -1, 0, 13, -1);
        due("high", x.roomTold(1, 0), 14 + 7);
        // in a hole that does not do while the one OVER lies yet
        x = Rooms.with("a=3;b=3;c=5;d=1;e=1;0a>d1;2b>c1;0cd>e1;");
        x.go(2);
        CHECK.dueAll("above all", Rooms.lying(x, 5), -1, -1, 7, 6, -1);
    }

    private static void highs() {
        BufferRoom x = Rooms.with("a=5;b=9;c=1;4>a1;0>b1;0>c1;");
        x.go(1);
        due("with scratch", x.roomTold(1, 0), 10);
        x.go(1);
        due("less is no matter", x.roomTold(1, 0), 10);
        due("nothing lies", x.roomTold(2, 0), 0);
        x = Rooms.with("a=5;b=9;c=1;4>a1;0a>b1;0b>c1;");
        x.go(2);
        due("more is", x.roomTold(1, 0), 14);
        due("what lies now", x.roomTold(2, 0), 14);
        due("b lies", x.roomTold(3, 1), 5);
    }

    private static void noCells() {
        // z bounds no HOLE, though it lies: a, b lie at 0, 2, z at 3
        BufferRoom x = Rooms.with("a=2;b=1;c=0;d=1;e=3;f=1;0a>d1;0b>e1;0ce>f1;c!;");
        x.go(1);
        CHECK.dueAll("ahead", Rooms.lying(x, 6), -1, 2, 3, -1, -1, -1);
        due("now", x.roomTold(2, 0), 3);
        x.go(1);
        CHECK.dueAll("all above", Rooms.lying(x, 6), -1, -1, 3, -1, 3, -1);
        x.go(1);
        due("none", x.roomTold(2, 0), 0);
        x = Rooms.with("a=5;b=0;c=1;d=9;b!;0a>c1;0>d1;");
        x.go(1);
        due("of no cells it holds no cell", x.holder(5), -1);
        due("its upper end", x.roomTold(2, 0), 5);
        due("moved down", x.compact(), 0);
        due("its upper end", x.roomTold(2, 0), 0);
        due("where it lies", x.roomTold(3, 1), 0);
    }

    private static void downs() {
        BufferRoom x = holes();
        due("nothing lies", x.compact(), 0);
        x.letter(0, 6);
        x.rule(1);
        x.go(2);
        CHECK.dueAll("ahead", Rooms.lying(x, 7), -1, 3, -1, 9, -1, 14, 15);
        due("moved", x.compact(), 9);
        CHECK.dueAll("behind", Rooms.lying(x, 7), -1, 0, -1, 1, -1, 2, 3);
        due("no more", x.compact(), 0);
        due("high stays", x.roomTold(1, 0), 21);
        due("now", x.roomTold(2, 0), 9);
        // what lies at 0 isn't moved; the lowest is first, not the least number
        x = Rooms.with("a=1;b=4;c=2;d=2;e=1;f=1;0b>d1;0>c1;0ace>f1;");
        x.go(1);
        CHECK.dueAll("ahead", Rooms.lying(x, 5), 0, -1, -1, -1, 5);
        x.rule(2);
        x.go(1);
        CHECK.dueAll("ahead", Rooms.lying(x, 5), 0, -1, 1, -1, 5);
        due("moved", x.compact(), 1);
        CHECK.dueAll("behind", Rooms.lying(x, 5), 0, -1, 1, -1, 3);
        due("round", Rooms.with("a=1;b=2;0b>a1;0a>b1;").compact(), 0);
    }

    private static void told() {
        BufferRoom x = holes();
        x.go(1);
        due("the place", x.roomTold(0, 99), 1);
        due("high", x.roomTold(1, -1), 15);
        due("now", x.roomTold(2, 0), 15);
        due("where", x.roomTold(3, 1), 3);
        due("no such", x.roomTold(3, 9), -5);
        due("-1", x.roomTold(3, -1), -5);
        due("12", x.roomTold(3, 12), -5);
        due("rule", x.roomTold(4, 0), 0);
        due("5", x.roomTold(5, 0), -7);
        due("-1", x.roomTold(-1, 99), -7);
    }

    private static void holders() {
        BufferRoom x = Rooms.with("a=2;b=3;c=0;d=0;0ab>c1;0ab>d1;");
        due("none", x.holder(0), -1);
        x.go(1);
        int[] want = {0, 0, 1, 1, 1, -1};
        for (int cell = 0; cell < want.length; cell++) {
            due("holder(" + cell + ")", x.holder(cell), want[cell]);
        }
        due("99999", x.holder(99999), -1);
        due("100000", x.holder(100000), -2);
        due("-1", x.holder(-1), -2);
        x = Rooms.with("a=99D;b=1;c=1;0a>b1;0a>c1;");
        x.letter(3, 99);
        x.go(1);
        due("the last", x.holder(9800), 0);
        due("behind it", x.holder(9801), -1);
    }

    private static void images() {
        BufferRoom x = holes();
        due("none", x.back(), -3);
        x.rule(1);
        x.letter(0, 4);
        x.go(2);
        due("image", x.image(), 2);
        x.compact();
        x.rule(2);
        x.go(1);
        x.again();
        x.letter(0, 9);
        due("back", x.back(), 2);
        CHECK.dueAll("what lies where", Rooms.lying(x, 8), -1, 3, -1, 9, -1, 14, 10, -1);
        due("high", x.roomTold(1, 0), 15);
        due("rule", x.roomTold(4, 0), 1);
        due("letter", x.count(4), 4);
        due("its size", x.bufferTold(6, 0), 4);
        due("its load", x.load(1), 7);
        due("on", x.go(1), 3);
        due("back once more", x.back(), 2);
        due("image", x.image(), 2);
        x.again();
        due("image of nothing", x.image(), 0);
        x.go(3);
        due("back", x.back(), 0);
        due("nothing lies", x.roomTold(2, 0), 0);
        due("a fault", Rooms.take(x, "?"), -100);
        due("back", x.back(), 0);
        due("a program", x.program(), 0);
        due("no image", x.back(), -3);
        BufferRoom round = Rooms.with("a=1A;b=2;0b>a1;0a>b1;");
        due("without an order", round.image(), 0);
        round.letter(0, 7);
        due("without an order", round.back(), 0);
        due("its size", round.bufferTold(0, 0), 1);
    }

    /** An image keeps no ORDER: what comes behind it is of THE ORDER that is told then. */
    private static void imagesOfOrders() {
        BufferRoom x = Rooms.with("a=3;b=2;c=1;0>a1;0>b1;0ab>c1;");
        x.go(1);
        x.image();
        x.again();
        Rooms.order(x, 1, 0, 2);
        due("back", x.back(), 1);
        CHECK.dueAll("a lies", Rooms.lying(x, 3), 0, -1, -1);
        CHECK.dueAll("the order stays", Rooms.orderTold(x), 1, 0, 2);
    }
}

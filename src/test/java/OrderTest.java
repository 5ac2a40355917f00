/** Promises 5 to 12: the order, loads, what is over, the peak, what is told, the least peak. */
final class OrderTest {
    private static final String FIRST = "a=10;b=6;c=6;d=8;e=5;0a>b3;2b>c4;1a>d9;4cd>e2;e!;";
    private static final String ROUND = "a=1;b=2;0b>a1;0a>b1;";
    private static final Check CHECK = new Check("OrderTest");

    public static void main(String[] args) {
        orders();
        ordersRefused();
        loads();
        overs();
        peaks();
        buffersTold();
        stepsTold();
        leastPeaks();
        leastPeaksOfTen();
        CHECK.close();
    }

    private static void due(String call, long got, long want) {
        CHECK.due(call, got, want);
    }

    private static void orders() {
        BufferRoom x = Rooms.with("a=1;b=1;c=1;0b>a1;0c>b1;0>c1;");
        CHECK.dueAll("the least that is ready", Rooms.orderTold(x), 2, 1, 0);
        x = Rooms.with("a=1;b=1;c=1;d=1;0>a1;0d>b1;0>c1;0>d1;");
        CHECK.dueAll("by numbers", Rooms.orderTold(x), 0, 2, 3, 1);
        due("told", Rooms.order(x, 3, 2, 1, 0), 4);
        CHECK.dueAll("as told", Rooms.orderTold(x), 3, 2, 1, 0);
        due("told again", Rooms.order(x, 3, 1, 2, 0), 4);
        CHECK.dueAll("as told again", Rooms.orderTold(x), 3, 1, 2, 0);
        x.sheet(3, -1, 0);
        x.letter(0, 5);
        CHECK.dueAll("told yet, without the sheet", Rooms.orderTold(x), 3, 1, 2, 0);
        x.sheet(0, 0, 4);
        x.cell(0, 1, 2);
        x.cell(0, 2, 3);
        x.cell(0, 3, 1);
        due("of bytes", x.order(0), 4);
        CHECK.dueAll("of bytes, as told", Rooms.orderTold(x), 0, 2, 3, 1);
        BufferRoom none = new BufferRoom();
        due("of none", Rooms.order(none), 0);
        due("of none, told", none.count(3), 1);
    }

    private static void ordersRefused() {
        BufferRoom x = Rooms.with(FIRST);
        due("sheet -1", x.order(-1), -5);
        due("sheet 4", x.order(4), -5);
        due("missing", x.order(1), -11);
        due("too short", Rooms.order(x, 0, 1, 2), -2);
        due("too long", Rooms.order(x, 0, 1, 2, 3, 3), -2);
        due("at 0", Rooms.order(x, 1, 0, 2, 3), -100);
        due("twice", Rooms.order(x, 0, 0, 1, 2), -101);
        due("at 2", Rooms.order(x, 0, 1, 3, 2), -102);
        due("no such step", Rooms.order(x, 0, 1, 2, 4), -103);
        due("below 0", Rooms.order(x, 0, -1, 2, 4), -101);
        due("far off", Rooms.order(x, 0, 1, 34, 3), -102);
        due("none was told", x.count(3), 0);
        CHECK.dueAll("as it was", Rooms.orderTold(x), 0, 1, 2, 3);
        Rooms.order(x, 2, 0, 1, 3);
        due("a wrong one", Rooms.order(x, 3, 0, 1, 2), -100);
        CHECK.dueAll("as it was told", Rooms.orderTold(x), 2, 0, 1, 3);
        x.go(1);
        due("a step went", Rooms.order(x, 0, 1, 2, 3), -3);
        due("state ahead of a wrong one", Rooms.order(x, 3, 1, 2, 0), -3);
        due("its size ahead of state", Rooms.order(x, 3), -2);
        x.again();
        due("again", Rooms.order(x, 0, 1, 2, 3), 4);
        BufferRoom round = Rooms.with(ROUND);
        due("round", Rooms.order(round, 0, 1), -100);
        due("place", round.orderTold(2), -5);
        due("place -1", round.orderTold(-1), -5);
        due("state", round.orderTold(1), -3);
    }

    private static void loads() {
        BufferRoom x = Rooms.with(FIRST);
        CHECK.dueAll("loads", Rooms.loads(x), 16, 22, 24, 33);
        due("-1", x.load(-1), -5);
        due("4", x.load(4), -5);
        // never alive, wanted without a writer, read by none
        x = Rooms.with("a=99;b=20;c=3;d=4;b!;0>c1;0>d1;");
        CHECK.dueAll("loads", Rooms.loads(x), 23, 24);
        due("round", Rooms.with(ROUND).load(0), -3);
        due("round, place", Rooms.with(ROUND).load(2), -5);
        // the lesser one of what is over and written
        x = Rooms.with("a=9;b=4;2a>b1;");
        CHECK.dueAll("written is less", Rooms.loads(x), 4 + 13 - 4);
        x = Rooms.with("a=4;b=9;2a>b1;");
        CHECK.dueAll("over is less", Rooms.loads(x), 9 + 13 - 4);
    }

    private static void overs() {
        BufferRoom x = Rooms.with(FIRST);
        due("a step", x.over(0), -1);
        due("a fold", x.over(1), 1);
        due("the greatest", x.over(3), 3);
        due("-1", x.over(-1), -5);
        due("4", x.over(4), -5);
        due("round", Rooms.with(ROUND).over(0), -3);
        x = Rooms.with("a=5;b=5;c=1;d=1;2ba>c1;0>d1;");
        due("the least of like ones", x.over(0), 0);
        x = Rooms.with("a=5;b=9;c=1;d=1;2ba>c1;0b>d1;");
        due("that is read later", x.over(0), 0);
        x = Rooms.with("a=5;b=9;c=1;b!;2ba>c1;");
        due("that is wanted", x.over(0), 0);
        x = Rooms.with("a=5;c=1;a!;5a>c1;");
        due("none", x.over(0), -1);
        x = Rooms.with("a=0;c=1;5a>c1;");
        due("of no cells", x.over(0), 0);
    }

    private static void peaks() {
        BufferRoom x = Rooms.with(FIRST);
        due("peak", x.peak(0), 33);
        due("its place", x.peak(1), 3);
        due("ticks", x.peak(2), 3 + 4 + 5 + 6);
        due("3", x.peak(3), -5);
        due("-1", x.peak(-1), -5);
        x = Rooms.with("a=5;b=5;0>a1;0>b1;");
        due("peak", x.peak(0), 5);
        due("the first of like ones", x.peak(1), 0);
        x = Rooms.with("a=0;0>a0;");
        due("of nothing", x.peak(0), 0);
        due("its place", x.peak(1), 0);
        due("no ticks", x.peak(2), 0);
        x = new BufferRoom();
        due("no steps", x.peak(0), 0);
        due("no place", x.peak(1), -1);
        due("no ticks", x.peak(2), 0);
        for (int what = 0; what < 3; what++) {
            due("round", Rooms.with(ROUND).peak(what), -3);
        }
        due("round, 3", Rooms.with(ROUND).peak(3), -5);
    }

    private static void buffer(BufferRoom x, int b, int... want) {
        for (int what = 0; what < want.length; what++) {
            due("bufferTold(" + b + ", " + what + ")", x.bufferTold(b, what), want[what]);
        }
    }

    private static void buffersTold() {
        BufferRoom x = Rooms.with("a=1;b=2;c=3;d=4;e=5;f=6;g=7;"
            + "0a>c1;0>d1;0c>e1;0>f1;b!;d!;");
        buffer(x, 0, 1, -1, 0, 0, 0);
        buffer(x, 1, 2, -1, 1, 0, 3);
        buffer(x, 2, 3, 0, 0, 0, 2);
        buffer(x, 3, 4, 1, 1, 1, 3);
        buffer(x, 4, 5, 2, 0, 2, 2);
        buffer(x, 5, 6, 3, 0, 3, 3);
        buffer(x, 6, 7, -1, 0, 0, -1);
        due("what 5", x.bufferTold(0, 5), -7);
        due("what -1", x.bufferTold(0, -1), -7);
        due("no such", x.bufferTold(7, 0), -5);
        due("-1", x.bufferTold(-1, 0), -5);
        due("12", x.bufferTold(12, 0), -5);
        due("-5 ahead of -7", x.bufferTold(12, 9), -5);
        Rooms.order(x, 3, 1, 0, 2);
        buffer(x, 0, 1, -1, 0, 0, 2);
        buffer(x, 2, 3, 0, 0, 2, 3);
        x = Rooms.with("a=1;a!;");
        buffer(x, 0, 1, -1, 1, 0, -1);
        x = Rooms.with(ROUND);
        buffer(x, 1, 2, 1, 0, -3, -3);
        due("what 5, round", x.bufferTold(1, 5), -7);
    }

    private static void stepsTold() {
        BufferRoom x = Rooms.with("a=10;b=7;c=33;d=1;e=1;f=1;4ba>c9;5c>d7;3>e5;1edcb>f4;");
        int[][] want = {
            {4, 27, 2, 2, 50, 1, 1, 0, -7}, {5, 7, 3, 1, 0, 1, 2, -7}, {3, 5, 4, 0, 0, 0, -7},
            {1, 2, 5, 4, 0, 0, 4, 3, 2, 1, -7},
        };
        for (int s = 0; s < want.length; s++) {
            for (int what = 0; what < want[s].length; what++) {
                due("stepTold(" + s + ", " + what + ")", x.stepTold(s, what), want[s][what]);
            }
        }
        due("-1", x.stepTold(-1, 0), -5);
        due("4", x.stepTold(4, 0), -5);
        due("-5 ahead of -7", x.stepTold(4, 99), -5);
        due("what -1", x.stepTold(0, -1), -7);
        due("what, greatest", x.stepTold(0, Integer.MAX_VALUE), -7);
        due("round", Rooms.with(ROUND).stepTold(1, 6), 0);
    }

    private static void leastPeaks() {
        BufferRoom x = Rooms.with(FIRST);
        due("least", x.leastPeak(-1), 33);
        due("heaps", x.leastPeak(-2), 16);
        due("-3", x.leastPeak(-3), -5);
        due("4", x.leastPeak(4), -5);
        for (int k = 0; k < 4; k++) {
            due("the first", x.leastPeak(k), k);
        }
        // by numbers both great ones stand at once; one behind the other they don't
        x = Rooms.with("a=50;b=50;c=1;d=1;0>a1;0>b1;0a>c1;0b>d1;c!;d!;");
        due("by numbers", x.peak(0), 101);
        due("least", x.leastPeak(-1), 52);
        int[] want = {0, 2, 1, 3};
        for (int k = 0; k < 4; k++) {
            due("least at " + k, x.leastPeak(k), want[k]);
        }
        Rooms.order(x, 1, 0, 2, 3);
        due("a told order is no matter", x.leastPeak(1), 2);
        x.letter(0, 50);
        due("heaps", x.leastPeak(-2), 16);
        due("round", Rooms.with(ROUND).leastPeak(-1), -3);
        due("round, heaps", Rooms.with(ROUND).leastPeak(-2), -3);
        due("round, no such", Rooms.with(ROUND).leastPeak(2), -5);
        x = Rooms.with("a=9A;0>a1;");
        due("one", x.leastPeak(-1), 9);
        x.letter(0, 5);
        due("by letters", x.leastPeak(-1), 45);
        x = new BufferRoom();
        due("none", x.leastPeak(-1), 0);
        due("the heap of none", x.leastPeak(-2), 1);
        due("no step", x.leastPeak(0), -5);
    }

    /** Five great ones, each made small by another step: by numbers all great ones stand at once. */
    private static void leastPeaksOfTen() {
        StringBuilder text = new StringBuilder();
        StringBuilder steps = new StringBuilder();
        for (int i = 0; i < 5; i++) {
            text.append((char) ('a' + i)).append("=9A;").append((char) ('f' + i)).append("=1;");
            steps.append("0>").append((char) ('a' + i)).append("1;");
        }
        for (int i = 0; i < 5; i++) {
            steps.append('0').append((char) ('a' + i)).append('>').append((char) ('f' + i)).append("1;");
            steps.append((char) ('f' + i)).append("!;");
        }
        BufferRoom x = Rooms.with(text.append(steps).toString());
        due("by numbers", x.peak(0), 46);
        due("heaps", x.leastPeak(-2), 1024);
        due("least", x.leastPeak(-1), 14);
        int[] want = {0, 5, 1, 6, 2, 7, 3, 8, 4, 9};
        for (int k = 0; k < 10; k++) {
            due("least at " + k, x.leastPeak(k), want[k]);
        }
        // of no cells all orders are alike
        x.letter(0, 0);
        due("least", x.leastPeak(-1), 5);
        for (int k = 0; k < 10; k++) {
            due("the first at " + k, x.leastPeak(k), k);
        }
    }
}

/** Promises 13 to 20: heights, the plan, what clashes, what is sent out, pairs. */
final class PlacesTest {
    private static final String ROUND = "a=1;b=2;0b>a1;0a>b1;";
    private static final Check CHECK = new Check("PlacesTest");

    public static void main(String[] args) {
        heights();
        heightsRefused();
        plan();
        clashes();
        clashesOverWritten();
        sentOut();
        sentOutTwice();
        sentOutRefused();
        pairs();
        longPairs();
        CHECK.close();
    }

    private static void due(String call, long got, long want) {
        CHECK.due(call, got, want);
    }

    private static void heightAts(BufferRoom x, int... want) {
        for (int i = 0; i < want.length; i++) {
            due("heightAt(" + i + ")", x.heightAt(i), want[i]);
        }
        due("heightAt(" + want.length + ")", x.heightAt(want.length), -5);
        due("heightAt(-1)", x.heightAt(-1), -5);
    }

    private static void heights() {
        // a is ALIVE 0 .. 0, b 0 .. 1, c 1 .. 1, d 0 .. 0, e never
        BufferRoom x = Rooms.with("a=1;b=2;c=3;d=0;e=7;0a>d1;0b>c1;");
        due("of none", Rooms.height(x), 0);
        heightAts(x);
        due("the second row is the first of the least", Rooms.height(x, 0, 1, 2), 5);
        heightAts(x, 0, 3, 0);
        due("by another sheet", Rooms.height(x, 2, 1, 0), 5);
        heightAts(x, 0, 3, 0);
        due("b first", Rooms.height(x, 1, 0, 2), 5);
        heightAts(x, 0, 2, 2);
        due("twice", Rooms.height(x, 1, 1), 4);
        heightAts(x, 0, 2);
        due("never alive", Rooms.height(x, 4, 4, 1), 7);
        heightAts(x, 0, 0, 0);
        due("no cells", Rooms.height(x, 1, 3, 3), 2);
        heightAts(x, 0, 0, 0);
        due("six", Rooms.height(x, 1, 1, 1, 1, 1, 1), 12);
        heightAts(x, 0, 2, 4, 6, 8, 10);
        Rooms.height(x, 1, 0, 2);
        x.sheet(3, -1, 0);
        Rooms.take(x, "a=1;");
        heightAts(x, 0, 2, 2);
    }

    private static void heightsRefused() {
        BufferRoom x = Rooms.with("a=1;b=2;0a>b1;");
        Rooms.height(x, 1, 0);
        due("sheet -1", x.height(-1), -5);
        due("sheet 4", x.height(4), -5);
        due("missing", x.height(0), -11);
        due("seven", Rooms.height(x, 0, 0, 0, 0, 0, 0, 0), -2);
        due("no buffer", Rooms.height(x, 0, 2), -2);
        due("12", Rooms.height(x, 12), -2);
        due("-1", Rooms.height(x, -1), -2);
        heightAts(x, 0, 2);
        BufferRoom round = Rooms.with(ROUND);
        due("bad ahead of state", Rooms.height(round, 5), -2);
        due("state", Rooms.height(round, 0), -3);
        due("nothing found", round.heightAt(0), -5);
    }

    private static void plan() {
        BufferRoom x = Rooms.with("a=1;b=2;");
        due("lay", x.lay(0, 5), -1);
        due("lay again", x.lay(0, 99999), 5);
        due("nowhere", x.lay(0, -1), 99999);
        due("nowhere again", x.lay(0, -1), -1);
        due("no such", x.lay(2, 0), -5);
        due("-1", x.lay(-1, 0), -5);
        due("-5 ahead of bad", x.lay(12, -2), -5);
        due("100000", x.lay(1, 100000), -2);
        due("-2", x.lay(1, -2), -2);
        due("nothing changed", x.lay(1, 7), -1);
        Rooms.take(x, "b=1;");
        due("no plan", x.lay(1, 7), -1);
        due("round", Rooms.with(ROUND).lay(0, 3), -1);
    }

    private static int clash(BufferRoom x, int... at) {
        for (int b = 0; b < at.length; b++) {
            x.lay(b, at[b]);
        }
        return x.clash();
    }

    private static void clashes() {
        // a, b, c are ALIVE 0 .. 0, 0 .. 1, 1 .. 1
        BufferRoom x = Rooms.with("a=10;b=20;c=30;d=0;0a>d1;0b>c1;");
        due("no plan", x.clash(), -1);
        due("one", clash(x, 0, -1, -1, -1), -1);
        due("one behind the other", clash(x, 0, 10, 30, -1), -1);
        due("by one cell", clash(x, 0, 9, 30, -1), 1);
        due("by one cell", clash(x, 21, 2, 40, -1), 1);
        due("not together", clash(x, 0, 50, 0, -1), -1);
        due("the later two", clash(x, 0, 10, 29, -1), 102);
        due("the first two", clash(x, 0, 5, 8, -1), 1);
        due("no cells", clash(x, 0, 10, 30, 5), -1);
        due("state", Rooms.with(ROUND).clash(), -3);
        x = Rooms.with("a=1;b=1;c=1;d=1;e=1;f=1;g=1;h=1;i=1;j=1;k=1;l=1;0kl>a1;");
        x.lay(10, 0);
        x.lay(11, 0);
        due("the greatest two", x.clash(), 1011);
    }

    private static void clashesOverWritten() {
        BufferRoom x = Rooms.with("a=10;b=4;2a>b1;");
        due("over, and written", clash(x, 0, 3), -1);
        x = Rooms.with("a=10;b=4;0a>b1;");
        due("no over", clash(x, 0, 3), 1);
        x = Rooms.with("a=10;b=4;c=10;2ac>b1;");
        due("another one is over", clash(x, -1, 0, 3), 102);
        due("the one is", clash(x, 3, 0, -1), -1);
        x = Rooms.with("a=10;b=4;a!;2a>b1;");
        due("wanted", clash(x, 0, 3), 1);
        // the second step READS what the first one WRITES, and the one that it READ
        x = Rooms.with("a=10;b=4;c=1;2a>b1;0ab>c1;");
        due("two places", clash(x, 0, 3), 1);
        x = Rooms.with("a=4;b=10;2a>b1;");
        due("over is the lesser one", clash(x, 0, 3), -1);
        x = Rooms.with("b=4;l=9;c=1;0>l1;2l>b1;0b>c1;");
        x.lay(11, 0);
        x.lay(1, 2);
        due("the greater number is over", x.clash(), -1);
    }

    private static void sentOut() {
        // a is idle at 1 and 2; loads are 10, 15, 20, 16
        BufferRoom x = Rooms.with("a=10;b=5;c=5;d=1;0>a1;0>b1;0b>c1;0ac>d1;");
        CHECK.dueAll("loads", Rooms.loads(x), 10, 15, 20, 16);
        due("all fits", Rooms.sendOut(x, 20, 3, 0, 1, 2), 0);
        due("none", x.outs(), 0);
        due("one place is too small", Rooms.sendOut(x, 19, 3, 0, 1, 2), 7);
        due("a", x.outs(), 1);
        due("by a great rate", Rooms.sendOut(x, 16, 99, 2, 0), 1);
        due("a", x.outs(), 1);
        due("by the least rate", Rooms.sendOut(x, 16, 1, 2, 0, 0), 20);
        due("a", x.outs(), 1);
        due("no set", Rooms.sendOut(x, 15, 1, 0, 1, 2), -6);
        due("what was found last", x.outs(), 1);
        due("others don't help", Rooms.sendOut(x, 19, 1, 1, 2, 3), -6);
        due("of none", Rooms.sendOut(x, 99999, 1), 0);
        due("none", x.outs(), 0);
        due("of none no set", Rooms.sendOut(x, 0, 1), -6);
        BufferRoom none = new BufferRoom();
        due("no steps", Rooms.sendOut(none, 0, 1), 0);
    }

    private static void sentOutTwice() {
        // a is idle at 0, 2 and 4, b at 0 and 1, c at 0 and 1
        BufferRoom x = Rooms.with("a=10;b=7;c=7;d=0;e=0;f=0;g=0;h=0;a!;"
            + "0>d1;0a>e1;0bc>f1;0a>g1;0>h1;");
        CHECK.dueAll("loads", Rooms.loads(x), 24, 24, 24, 10, 10);
        due("three stretches", Rooms.sendOut(x, 24, 7, 0), 0);
        Rooms.order(x, 2, 0, 1, 3, 4);
        CHECK.dueAll("loads", Rooms.loads(x), 24, 10, 10, 10, 10);
        due("a at 0, 1 and at 4", Rooms.sendOut(x, 14, 7, 0, 1, 2), 3 + 3);
        due("a", x.outs(), 1);
        Rooms.order(x, 0, 1, 2, 3, 4);
        due("no way at 2", Rooms.sendOut(x, 23, 7, 1, 2), -6);
        // either one would do
        x = Rooms.with("a=5;b=5;c=3;d=0;0>c1;0ab>d1;");
        due("the first place", Rooms.sendOut(x, 10, 1, 1, 0), 10);
        due("b stands first", x.outs(), 2);
        due("the first place", Rooms.sendOut(x, 10, 1, 0, 1), 10);
        due("a stands first", x.outs(), 1);
        Rooms.take(x, "a=1;");
        due("what was found last stays", x.outs(), 1);
    }

    private static void sentOutRefused() {
        BufferRoom x = Rooms.with("a=5;b=5;0a>b1;");
        due("sheet -1", x.sendOut(-1, 0, 0), -5);
        due("sheet 4", x.sendOut(4, -1, 1), -5);
        due("missing", x.sendOut(0, -1, 1), -11);
        due("room -1", Rooms.sendOut(x, -1, 1, 0), -2);
        due("room 100000", Rooms.sendOut(x, 100000, 1, 0), -2);
        due("rate 0", Rooms.sendOut(x, 10, 0, 0), -2);
        due("rate 100", Rooms.sendOut(x, 10, 100, 0), -2);
        due("seven", Rooms.sendOut(x, 10, 1, 0, 0, 0, 0, 0, 0, 0), -2);
        due("no buffer", Rooms.sendOut(x, 10, 1, 2), -2);
        due("-1", Rooms.sendOut(x, 10, 1, -1), -2);
        BufferRoom round = Rooms.with(ROUND);
        due("bad ahead of state", Rooms.sendOut(round, 0, 0, 0), -2);
        due("state", Rooms.sendOut(round, 0, 1, 0), -3);
    }

    private static void pairs() {
        // 5, 5, 9, 1, 1, 1
        BufferRoom x = Rooms.with("a=5;b=9;c=1;0>a2;0>b1;0>c3;");
        int[] want = {18, 14, 14, 10, 9, 9, 9, 9};
        for (int phase = 0; phase < want.length; phase++) {
            due("pair(" + phase + ")", x.pair(phase), want[phase]);
        }
        due("pair(400)", x.pair(400), 9);
        due("401", x.pair(401), -2);
        due("-1", x.pair(-1), -2);
        int[] best = {0, 1, 1, 3, 4, 4};
        for (int most = 0; most < best.length; most++) {
            due("bestPhase(" + most + ")", x.bestPhase(most), best[most]);
        }
        due("bestPhase(400)", x.bestPhase(400), 4);
        due("401", x.bestPhase(401), -2);
        due("-1", x.bestPhase(-1), -2);
        Rooms.order(x, 1, 2, 0);
        due("by the order told", x.pair(1), 10);
        due("no ticks", Rooms.with("a=5;0>a0;").pair(0), 0);
        due("no steps", new BufferRoom().pair(0), 0);
        due("no steps", new BufferRoom().bestPhase(400), 0);
        due("state", Rooms.with(ROUND).pair(400), -3);
        due("bad ahead of state", Rooms.with(ROUND).pair(401), -2);
        due("state", Rooms.with(ROUND).bestPhase(400), -3);
        due("bad ahead of state", Rooms.with(ROUND).bestPhase(401), -2);
    }

    private static void longPairs() {
        BufferRoom x = Rooms.with("a=1;b=5;c=50;4>a99;4>b99;4>c99;");
        CHECK.dueAll("loads", Rooms.loads(x), 2, 10, 100);
        due("what is behind 400 ticks isn't seen", x.pair(0), 20);
        due("102 behind", x.pair(102), 20);
        due("103 behind", x.pair(103), 12);
        due("400 behind", x.pair(400), 10);
        due("best", x.bestPhase(400), 400);
        due("best of less", x.bestPhase(399), 103);
    }
}

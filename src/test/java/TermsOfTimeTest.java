/** The edges that Terms 2 and 3 name: orders, who is alive, OVER, loads, heights, what clashes, pairs. */
final class TermsOfTimeTest {
    private static final Check CHECK = new Check("TermsOfTimeTest");

    public static void main(String[] args) {
        orders();
        ordersOfTen();
        programsBehind();
        alive();
        over();
        loads();
        peaks();
        leastPeaks();
        heaps();
        heights();
        heightsOfLikeOnes();
        clashes();
        clashesAtOnePlace();
        sentOutCuts();
        sentOutStretches();
        sentOutOfLikeOnes();
        pairs();
        pairsOf400Ticks();
        CHECK.close();
    }

    private static void due(String call, long got, long want) {
        CHECK.due(call, got, want);
    }

    private static void dueOrder(String text, int... want) {
        CHECK.dueAll(text, Rooms.orderTold(Rooms.with(text)), want);
    }

    // ---- 2: orders and loads

    private static void orders() {
        dueOrder("");
        dueOrder("a=1;0>a1;", 0);
        // READS what none WRITES, and what a STEP WRITES that comes later
        dueOrder("a=1;b=1;c=1;0a>b1;0>c1;", 0, 1);
        dueOrder("a=1;b=1;c=1;0c>b1;0>c1;", 1, 0);
        // as soon as it is READY the least one is next
        dueOrder("a=1;b=1;c=1;d=1;0c>a1;0>b1;0>c1;0>d1;", 1, 2, 0, 3);
        // one of two that it READS isn't WRITTEN yet
        dueOrder("a=1;b=1;c=1;0bc>a1;0>b1;0>c1;", 1, 2, 0);
        dueOrder("a=1;b=1;c=1;d=1;e=1;0bcde>a1;0>b1;0>c1;0>d1;0>e1;", 1, 2, 3, 4, 0);
        BufferRoom x = Rooms.with("a=1;b=1;c=1;0c>a1;0a>b1;0b>c1;");
        due("a round of three", x.orderTold(0), -3);
        // some STEPS are done, then none is READY
        x = Rooms.with("a=1;b=1;c=1;d=1;0>d1;0c>a1;0a>b1;0b>c1;");
        due("a round behind a STEP", x.orderTold(0), -3);
        due("at 1", Rooms.order(x, 0, 1, 2, 3), -101);
        due("at 0", Rooms.order(x, 1, 0, 2, 3), -100);
        due("none told", x.count(3), 0);
    }

    private static void ordersOfTen() {
        StringBuilder text = new StringBuilder("l=1;");
        for (char b = 'a'; b <= 'j'; b++) {
            text.append(b).append("=1;0l>").append(b).append("1;");
        }
        BufferRoom x = Rooms.with(text.toString());
        due("ten", Rooms.order(x, 9, 8, 7, 6, 5, 4, 3, 2, 1, 0), 10);
        due("the first", x.orderTold(0), 9);
        due("the last", x.orderTold(9), 0);
        due("behind it", x.orderTold(10), -5);
        due("its load", x.load(9), 2);
        due("TILL the last", x.bufferTold(11, 4), 9);
        due("the last is wrong", Rooms.order(x, 9, 8, 7, 6, 5, 4, 3, 2, 1, 9), -109);
        due("the last is none", Rooms.order(x, 9, 8, 7, 6, 5, 4, 3, 2, 1, 10), -109);
        due("eleven", Rooms.order(x, 9, 8, 7, 6, 5, 4, 3, 2, 1, 0, 0), -2);
        due("nine", Rooms.order(x, 9, 8, 7, 6, 5, 4, 3, 2, 1), -2);
        due("the last, yet", x.orderTold(9), 0);
        due("TICKS of all", x.peak(2), 10);
        due("its peak", x.peak(0), 2);
        due("a pair", x.pair(0), 4);
        due("a pair, 9 behind", x.pair(9), 4);
        due("a pair, 10 behind", x.pair(10), 2);
        due("best of all", x.bestPhase(400), 10);
        due("out of 2 cells", Rooms.sendOut(x, 2, 1, 11), 0);
        due("out of 1 cell", Rooms.sendOut(x, 1, 1, 11), -6);
        due("height of six", Rooms.height(x, 11, 0, 1, 2, 3, 4), 2);
        due("the first of the least peak", x.leastPeak(0), 0);
        due("the last of the least peak", x.leastPeak(9), 9);
        due("all go", x.go(10), 10);
        due("high", x.roomTold(1, 0), 2);
        StringBuilder round = new StringBuilder();
        for (char b = 'a'; b <= 'j'; b++) {
            round.append(b).append("=1;");
        }
        for (char b = 'a'; b <= 'j'; b++) {
            round.append("0").append(b == 'j' ? 'a' : (char) (b + 1)).append(">").append(b).append("1;");
        }
        due("a round of ten", Rooms.take(x, round.toString()), 10);
        due("no ORDER", x.peak(0), -3);
        due("a round of two behind it", Rooms.take(x, "a=1;b=1;0a>b1;0b>a1;"), 2);
        due("no ORDER", x.peak(0), -3);
        due("a round of two behind that", Rooms.take(x, "a=1;b=1;0a>b1;0b>a1;"), 2);
        due("no ORDER", x.peak(0), -3);
    }

    /** A short PROGRAM behind two long ones answers as if there had been none. */
    private static void programsBehind() {
        BufferRoom x = new BufferRoom();
        for (int ahead = 0; ahead < 2; ahead++) {
            due("a long one", Rooms.take(x, "a=99;b=99;c=99;d=99;4>a99;4>b99;4>c99;4>d99;"), 4);
            due("its TICKS", x.peak(2), 4 * 297);
            due("its pair", x.pair(0), 4 * 99);
            due("its least peak", x.leastPeak(-1), 198);
        }
        due("a short one", Rooms.take(x, "a=2;b=1;0>b3;"), 1);
        due("its TICKS", x.peak(2), 3);
        due("its peak", x.peak(0), 1);
        due("its pair", x.pair(0), 2);
        due("its pair, 2 behind", x.pair(2), 2);
        due("its pair, 3 behind", x.pair(3), 1);
        due("its least peak", x.leastPeak(-1), 1);
        due("its heaps", x.leastPeak(-2), 2);
        due("into one cell", Rooms.sendOut(x, 1, 1, 0, 1), 0);
        due("into none", Rooms.sendOut(x, 0, 1, 0, 1), -6);
        due("none", Rooms.take(x, ""), 0);
        due("no TICKS", x.peak(2), 0);
        due("no pair", x.pair(0), 0);
        due("into none", Rooms.sendOut(x, 0, 1), 0);
        for (int ahead = 0; ahead < 2; ahead++) {
            due("a long one", Rooms.take(x, "a=1;b=1;c=1;d=1;0>a1;0>b1;0>c1;0>d1;"), 4);
        }
        due("a round", Rooms.take(x, "a=1;b=1;0b>a1;0a>b1;"), 2);
        due("no ORDER", x.peak(0), -3);
    }

    private static void life(String text, int b, int from, int till) {
        BufferRoom x = Rooms.with(text);
        due(text + " from", x.bufferTold(b, 3), from);
        due(text + " TILL", x.bufferTold(b, 4), till);
        int cells = x.bufferTold(b, 0);
        for (int k = 0; k < x.count(0); k++) {
            due(text + " at " + k, x.load(k), k >= from && k <= till ? cells : 0);
        }
    }

    private static void alive() {
        String steps = "d=0;e=0;f=0;";
        life("a=7;" + steps + "0>d1;0>e1;0>f1;", 0, 0, -1);
        life("a=7;" + steps + "0a>d1;0>e1;0>f1;", 0, 0, 0);
        life("a=7;" + steps + "0>d1;0>e1;0a>f1;", 0, 0, 2);
        life("a=7;" + steps + "0a>d1;0a>e1;0>f1;", 0, 0, 1);
        life("a=7;" + steps + "0>d1;0>e1;0>f1;a!;", 0, 0, 2);
        life("a=7;" + steps + "0>d1;0>a1;0>f1;", 0, 1, 1);
        life("a=7;" + steps + "0>d1;0>e1;0>a1;", 0, 2, 2);
        life("a=7;" + steps + "0>a1;0a>e1;0>f1;", 0, 0, 1);
        life("a=7;" + steps + "0>d1;0>a1;0a>f1;", 0, 1, 2);
        life("a=7;" + steps + "0>d1;0>a1;0>f1;a!;", 0, 1, 2);
        life("a=7;" + steps + "0>d1;0>e1;0>a1;a!;", 0, 2, 2);
        life("a=7;a!;", 0, 0, -1);
        life("a=7;", 0, 0, -1);
        // the last letter
        life("l=7;" + steps + "0>d1;0>l1;0l>f1;", 11, 1, 2);
    }

    private static void over(String text, int place, int want) {
        due(text + " OVER at " + place, Rooms.with(text).over(place), want);
    }

    private static void over() {
        over("a=4;b=5;c=6;d=1;2abc>d1;", 0, 2);
        over("a=4;b=6;c=6;d=1;2abc>d1;", 0, 1);
        over("a=6;b=6;c=6;d=1;2cba>d1;", 0, 0);
        over("a=0;b=0;d=1;2ba>d1;", 0, 0);
        over("d=1;2>d1;", 0, -1);
        over("a=9;d=1;2a>d1;a!;", 0, -1);
        over("a=9;b=0;d=1;2ab>d1;a!;", 0, 1);
        // ALIVE TILL the next place, and TILL this one
        over("a=9;b=1;d=1;e=1;2ab>d1;0a>e1;", 0, 1);
        over("a=9;b=1;d=1;e=1;0ab>d1;2a>e1;", 1, 0);
        over("a=9;d=1;e=1;2a>d1;2a>e1;", 0, -1);
        over("a=9;d=1;e=1;2a>d1;2a>e1;", 1, 0);
        over("k=9;l=10;d=1;2kl>d1;", 0, 11);
        // by what LETTERS are worth
        BufferRoom x = Rooms.with("a=5;b=1A;d=1;2ab>d1;");
        int[] want = {0, 0, 0, 0, 0, 0, 1};
        for (int worth = 0; worth < want.length; worth++) {
            x.letter(0, worth);
            due("OVER by " + worth, x.over(0), want[worth]);
        }
        // by THE ORDER
        x = Rooms.with("a=9;d=1;e=1;2a>d1;2a>e1;");
        Rooms.order(x, 1, 0);
        due("OVER at 0", x.over(0), -1);
        due("OVER at 1", x.over(1), 0);
    }

    private static void loads() {
        // of 5 cells: written are one less, as many, one more
        due("4", Rooms.with("a=5;b=4;2a>b1;").load(0), 4 + 9 - 4);
        due("5", Rooms.with("a=5;b=5;2a>b1;").load(0), 5 + 10 - 5);
        due("6", Rooms.with("a=5;b=6;2a>b1;").load(0), 6 + 11 - 5);
        due("no cells are OVER", Rooms.with("a=0;b=6;2a>b1;").load(0), 12);
        due("no cells are written", Rooms.with("a=5;b=0;2a>b1;").load(0), 5);
        due("none OVER", Rooms.with("a=5;b=4;2a>b1;a!;").load(0), 13);
        due("a SORT", Rooms.with("a=5;b=4;4a>b1;").load(0), 9 + 9 - 4);
        due("a POINT", Rooms.with("a=5;b=16;5a>b1;").load(0), 2 + 21 - 5);
        due("a TURN", Rooms.with("a=5;b=4;3a>b1;").load(0), 2 + 9);
        due("no STEPS", new BufferRoom().load(0), -5);
    }

    private static void peaks() {
        BufferRoom x = Rooms.with("a=5;b=6;c=6;0>a1;0>b1;0>c1;");
        due("peak", x.peak(0), 6);
        due("its first place", x.peak(1), 1);
        x = Rooms.with("a=6;b=6;c=7;0>a1;0>b1;0>c1;");
        due("the last place", x.peak(1), 2);
        x = Rooms.with("a=0;b=0;0>a0;0>b0;");
        due("of no cells the first place", x.peak(1), 0);
        x = Rooms.with("a=1;a!;");
        due("of no STEPS it is 0", x.peak(0), 0);
        due("and has no place", x.peak(1), -1);
        due("and no TICKS", x.peak(2), 0);
    }

    private static void dueLeast(String text, int... want) {
        BufferRoom x = Rooms.with(text);
        for (int i = 0; i < want.length; i++) {
            due(text + " leastPeak(" + (i - 1) + ")", x.leastPeak(i - 1), want[i]);
        }
    }

    private static void leastPeaks() {
        dueLeast("a=3;0>a1;", 3, 0);
        dueLeast("a=3;b=3;0>a1;0>b1;", 3, 0, 1);
        // a is WANTED: it comes last, or it doesn't matter
        dueLeast("a=3;b=9;a!;0>a1;0>b1;", 9, 1, 0);
        dueLeast("a=3;b=9;c=12;a!;0>a1;0>b1;0>c1;", 12, 1, 2, 0);
        dueLeast("a=3;b=9;c=12;a!;0c>a1;0>b1;0>c1;", 15, 1, 2, 0);
        dueLeast("a=3;b=9;c=13;a!;0>a1;0>b1;0>c1;", 13, 1, 2, 0);
        dueLeast("a=3;b=9;c=2;a!;0>a1;0>b1;0>c1;", 9, 1, 0, 2);
        // the first by STEPS needs no more than the least of all, though less would do behind it
        dueLeast("a=1;b=1;c=9;a!;b!;0>a1;0>b1;0>c1;", 9, 2, 0, 1);
        dueLeast("a=1;b=5;c=9;d=9;0>a1;0>b1;0c>d1;a!;", 18, 1, 2, 0);
        // by OVER: the STEP that is OVER does best as the last one to READ
        dueLeast("a=9;b=9;c=1;5a>b1;0a>c1;c!;b!;", 11, 1, 0);
        // a round: STATE
        dueLeast("a=1;b=1;0a>b1;0b>a1;", -3, -3, -3, -5);
    }

    private static void heaps() {
        StringBuilder text = new StringBuilder();
        for (int steps = 0; steps <= 10; steps++) {
            due("any " + steps + " STEPS", Rooms.with(text.toString()).leastPeak(-2), 1 << steps);
            text.append((char) ('a' + steps)).append("=1;0>").append((char) ('a' + steps)).append("1;");
        }
        // some of these sets can't come, but from each all others can be done
        due("a chain", Rooms.with("a=1;b=1;c=1;0>a1;0a>b1;0b>c1;").leastPeak(-2), 8);
        due("the other way", Rooms.with("a=1;b=1;c=1;0b>a1;0c>b1;0>c1;").leastPeak(-2), 8);
    }

    // ---- 3: places

    private static void dueHeight(String text, int[] sheet, int want, int... places) {
        BufferRoom x = Rooms.with(text);
        String call = text + " by " + java.util.Arrays.toString(sheet);
        due(call, Rooms.height(x, sheet), want);
        for (int i = 0; i < places.length; i++) {
            due(call + " heightAt(" + i + ")", x.heightAt(i), places[i]);
        }
        due(call + " heightAt, behind", x.heightAt(sheet.length), -5);
    }

    private static int[] by(int... sheet) {
        return sheet;
    }

    private static void heights() {
        // ALIVE 0 .. 1, 1 .. 2, 2 .. 2
        String chain = "a=3;b=4;c=5;0>a1;0a>b1;0b>c1;";
        dueHeight(chain, by(), 0);
        dueHeight(chain, by(0), 3, 0);
        dueHeight(chain, by(0, 1), 7, 0, 3);
        dueHeight(chain, by(0, 2), 5, 0, 0);
        dueHeight(chain, by(1, 2), 9, 0, 4);
        dueHeight(chain, by(2, 1, 0), 9, 0, 5, 0);
        dueHeight(chain, by(0, 0), 6, 0, 3);
        dueHeight(chain, by(0, 0, 2, 2), 10, 0, 3, 0, 5);
        dueHeight(chain, by(0, 0, 0, 0, 0, 0), 18, 0, 3, 6, 9, 12, 15);
        // a gap of 2 cells: one of 2 has room in it, one of 3 has not
        dueHeight("a=2;b=3;c=2;d=1;0>a1;0>c1;0bc>d1;", by(0, 1, 2), 5, 0, 2, 0);
        dueHeight("a=2;b=3;c=3;d=1;0>a1;0>c1;0bc>d1;", by(0, 1, 2), 6, 0, 3, 0);
        // never ALIVE, and no cells
        dueHeight("a=9;b=3;c=1;0b>c1;", by(1, 0), 9, 0, 0);
        dueHeight("a=0;b=3;c=1;0ab>c1;", by(1, 0), 3, 0, 0);
        dueHeight("a=0;b=3;c=1;0ab>c1;", by(0, 1, 0), 3, 0, 0, 0);
        dueHeight("a=0;b=3;c=1;0ab>c1;", by(0), 0, 0);
        dueHeight("k=2;l=3;c=1;0kl>c1;", by(11, 10), 5, 0, 3);
    }

    private static void heightsOfLikeOnes() {
        // of like rows the first one by places of the SHEET, not by BUFFERS
        String all = "a=3;b=4;c=5;d=0;0abc>d1;";
        dueHeight(all, by(0, 1, 2), 12, 0, 3, 7);
        dueHeight(all, by(2, 1, 0), 12, 0, 5, 9);
        dueHeight(all, by(1, 2, 0), 12, 0, 4, 9);
        // the first row would be greater; the second one is not
        dueHeight("a=1;b=2;c=3;d=0;e=7;0a>d1;0b>c1;", by(0, 1, 2), 5, 0, 3, 0);
    }

    private static int clash(String text, int... at) {
        BufferRoom x = Rooms.with(text);
        for (int b = 0; b < at.length; b++) {
            x.lay(b, at[b]);
        }
        return x.clash();
    }

    private static void clashes() {
        String two = "a=4;b=6;c=0;d=0;0ab>d1;";
        due("behind it", clash(two, 10, 14), -1);
        due("by its last cell", clash(two, 10, 13), 1);
        due("at its first cell", clash(two, 10, 10), 1);
        due("by the first cell", clash(two, 10, 5), 1);
        due("ahead of it", clash(two, 10, 4), -1);
        due("inside", clash(two, 12, 10), 1);
        due("at the last place", clash(two, 99999, 99999), 1);
        due("at the first place", clash(two, 0, 0), 1);
        due("one lies nowhere", clash(two, 0, -1), -1);
        due("both lie nowhere", clash(two, -1, -1), -1);
        String none = "a=0;b=6;c=0;d=0;0abc>d1;";
        due("no cells are inside", clash(none, 3, 0), -1);
        due("no cells are inside", clash(none, -1, 0, 3), -1);
        due("no cells, twice", clash(none, 3, -1, 3), -1);
        // ALIVE 0 .. 1, 1 .. 2, 2 .. 2
        String chain = "a=3;b=4;c=5;0>a1;0a>b1;0b>c1;";
        due("at one place", clash(chain, 0, 0, -1), 1);
        due("at no place", clash(chain, 0, -1, 0), -1);
        due("at one place", clash(chain, -1, 0, 0), 102);
        due("never ALIVE", clash("a=3;b=4;c=1;0a>c1;", 0, 0, 9), -1);
        // the first two: by the lesser one first
        due("0 and 2 ahead of 1 and 2", clash("a=2;b=2;c=4;d=0;0abc>d1;", 0, 2, 0), 2);
        due("1 and 2", clash("a=2;b=2;c=4;d=0;0abc>d1;", 0, 4, 2), 102);
        due("no STEPS", clash("a=3;b=3;", 0, 0), -1);
    }

    private static void clashesAtOnePlace() {
        due("OVER, WRITTEN", clash("a=4;b=6;2a>b1;", 0, 0), -1);
        due("WRITTEN, OVER", clash("a=4;b=6;2b>a1;", 0, 0), -1);
        due("OVER is another one", clash("a=4;b=6;c=7;2ac>b1;", 0, 0), 1);
        due("both are READ", clash("a=4;b=6;c=7;2ab>c1;", 0, 0), 1);
        due("no STEP that is OVER", clash("a=4;b=6;1a>b1;", 0, 0), 1);
        // ALIVE 0 .. 1 and 1 .. 2: one place, of which the other one is OVER, WRITTEN
        due("at 1", clash("a=4;b=6;c=1;0>a1;2a>b1;0b>c1;", 0, 0), -1);
        due("at 1, and WANTED", clash("a=4;b=6;c=1;a!;0>a1;2a>b1;0b>c1;", 0, 0), 1);
        due("at 1 and 2", clash("a=4;b=6;c=1;0>a1;2a>b1;0ab>c1;", 0, 0), 1);
        due("by SORT", clash("a=4;b=6;4a>b1;", 0, 0), -1);
        due("by POINT", clash("a=4;b=6;5a>b1;", 0, 0), -1);
        due("by TURN", clash("a=4;b=6;3a>b1;", 0, 0), 1);
    }

    /** One BUFFER of 3 cells that is idle at one place: 6 by the rate. */
    private static void sentOutCuts() {
        BufferRoom x = Rooms.with("a=3;b=1;c=1;0>b1;0a>c1;");
        CHECK.dueAll("loads", Rooms.loads(x), 4, 4);
        x = Rooms.with("a=3;b=1;c=0;0>b1;0a>c1;");
        CHECK.dueAll("loads", Rooms.loads(x), 4, 3);
        int[] want = {6, 3, 2, 2, 2, 1, 1};
        for (int rate = 1; rate <= want.length; rate++) {
            due("rate " + rate, Rooms.sendOut(x, 3, rate, 0), want[rate - 1]);
        }
        due("rate 99", Rooms.sendOut(x, 3, 99, 0), 1);
        due("it is OUT", x.outs(), 1);
        due("the room is the LOAD", Rooms.sendOut(x, 4, 1, 0), 0);
        due("none is OUT", x.outs(), 0);
        due("a cell less than is left", Rooms.sendOut(x, 2, 1, 0), -6);
        due("what was found last", x.outs(), 0);
        due("told twice", Rooms.sendOut(x, 3, 1, 0, 0), 6);
        due("told six times", Rooms.sendOut(x, 3, 1, 0, 0, 0, 0, 0, 0), 6);
        due("not told", Rooms.sendOut(x, 3, 1, 1, 2), -6);
        x = Rooms.with("l=99A+99A+99A+99A;b=1;c=0;0>b1;0l>c1;");
        x.letter(0, 99);
        due("the greatest of all", Rooms.sendOut(x, 39204, 1, 11), 2 * 39204);
        due("the last letter is OUT", x.outs(), 1 << 11);
    }

    private static void sentOutStretches() {
        String steps = "b=1;c=1;d=0;e=0;f=0;";
        // idle at 0, 1 of 0 .. 2; at 1, 2 of 0 .. 2, as it is WANTED; at 0, 2; at 0, 2, 4
        stretches("a=9;" + steps + "0>b1;0>c1;0a>d1;", 9, 18, 8, -6);
        stretches("a=9;" + steps + "0>a1;0>c1;0>d1;a!;", 9, 18, 8, -6);
        stretches("a=9;" + steps + "0>b1;0a>d1;0>c1;0a>e1;", 9, 36, 8, -6);
        stretches("a=9;" + steps + "0>b1;0a>d1;0>c1;0a>e1;0>f1;a!;", 9, 54, 8, -6);
        // ALIVE from first to last and never READ; never ALIVE
        stretches("a=9;" + steps + "0>b1;0>c1;0>d1;a!;", 1, 18, 0, -6);
        stretches("a=9;" + steps + "0>b1;0>c1;0>d1;", 1, 0, 0, -6);
        // what is WRITTEN is not OUT, nor what is READ
        stretches("a=9;" + steps + "0>a1;0a>d1;", 9, 0, 8, -6);
    }

    private static void stretches(String text, int room, int want, int otherRoom, int otherWant) {
        BufferRoom x = Rooms.with(text);
        due(text + " into " + room, Rooms.sendOut(x, room, 1, 0), want);
        due(text + " into " + otherRoom, Rooms.sendOut(x, otherRoom, 1, 0), otherWant);
    }

    private static void sentOutOfLikeOnes() {
        // at 0 are 5 + 5 + 5 + 1 cells, of which a, b, c are idle
        String three = "a=5;b=5;c=5;d=1;e=0;0>d1;0abc>e1;";
        BufferRoom x = Rooms.with(three);
        CHECK.dueAll("loads", Rooms.loads(x), 16, 15);
        due("none", Rooms.sendOut(x, 16, 1, 2, 1, 0), 0);
        due("none", x.outs(), 0);
        due("one", Rooms.sendOut(x, 15, 1, 2, 1, 0), 10);
        due("the first place's", x.outs(), 4);
        x = Rooms.with("a=5;b=5;c=5;d=3;e=0;f=0;0>d1;0abc>e1;");
        CHECK.dueAll("loads", Rooms.loads(x), 18, 15);
        due("one", Rooms.sendOut(x, 15, 1, 1, 2), 10);
        due("the first place's", x.outs(), 2);
        // two: as bits of places 0 and 1 are least
        x = Rooms.with("a=5;b=5;c=5;d=8;e=0;f=0;0>d1;0abc>e1;");
        CHECK.dueAll("loads", Rooms.loads(x), 23, 15);
        due("two", Rooms.sendOut(x, 15, 1, 2, 0, 1), 20);
        due("those of places 0 and 1", x.outs(), 4 + 1);
        due("two, told twice", Rooms.sendOut(x, 15, 1, 2, 2, 0, 1), 20);
        due("those of places 0 and 2", x.outs(), 4 + 1);
        // one of no cells needs no time: it stays if it needn't go
        x = Rooms.with("a=0;b=5;d=1;e=0;0>d1;0ab>e1;");
        due("b", Rooms.sendOut(x, 5, 1, 0, 1), 10);
        due("a stays", x.outs(), 2);
        // the least time, not the fewest BUFFERS or cells
        x = Rooms.with("a=7;b=4;c=3;d=1;e=0;0>d1;0abc>e1;");
        due("14 cells will do, so will b, c", Rooms.sendOut(x, 14, 7, 0, 1, 2), 1);
        due("c", Rooms.sendOut(x, 14, 1, 0, 1, 2), 6);
        due("c", x.outs(), 4);
    }

    private static void pairs() {
        // a tick each of 4, 9, 1
        BufferRoom x = Rooms.with("a=4;b=9;c=1;0>a1;0>b1;0>c1;");
        int[] want = {18, 13, 9, 9};
        for (int phase = 0; phase < want.length; phase++) {
            due("pair(" + phase + ")", x.pair(phase), want[phase]);
        }
        int[] best = {0, 1, 2, 2};
        for (int most = 0; most < best.length; most++) {
            due("bestPhase(" + most + ")", x.bestPhase(most), best[most]);
        }
        // what takes no ticks isn't seen
        x = Rooms.with("a=4;b=9;c=1;0>a1;0>b0;0>c1;");
        due("pair(0)", x.pair(0), 8);
        due("pair(1)", x.pair(1), 5);
        due("pair(2)", x.pair(2), 4);
        due("bestPhase(1)", x.bestPhase(1), 1);
        due("of like ones the least", x.bestPhase(400), 2);
        x = Rooms.with("a=4;b=4;0>a1;0>b1;");
        due("of like ones the least", x.bestPhase(1), 0);
        due("one less", x.bestPhase(2), 2);
        x = Rooms.with("a=0;0>a99;");
        due("no cells", x.pair(0), 0);
        due("all are alike", x.bestPhase(400), 0);
    }

    /** 297 ticks of 2, 99 of 5, so many of 1, one of 7, one of 50. */
    private static BufferRoom ticks(int ofC) {
        return Rooms.with("a=1;b=5;c=1;d=7;e=50;4>a99;0>b99;0>c" + ofC + ";0>d1;0>e1;");
    }

    private static void pairsOf400Ticks() {
        BufferRoom x = ticks(3);
        due("TICKS of all", x.peak(2), 401);
        due("the 400th tick is 7, the 401st 50", x.pair(0), 14);
        due("1 behind", x.pair(1), 10);
        due("399 behind: in one tick both run", x.pair(399), 7 + 2);
        due("400 behind: in none", x.pair(400), 7);
        due("best of 400", x.bestPhase(400), 400);
        due("best of 399", x.bestPhase(399), 103);
        due("best of 102", x.bestPhase(102), 1);
        x = ticks(2);
        due("TICKS of all", x.peak(2), 400);
        due("the 400th tick is 50", x.pair(0), 100);
        due("399 behind", x.pair(399), 52);
        due("400 behind", x.pair(400), 50);
        x = ticks(4);
        due("TICKS of all", x.peak(2), 402);
        due("the 400th tick is 1", x.pair(0), 10);
        due("399 behind", x.pair(399), 5);
        due("400 behind", x.pair(400), 5);
        due("396 behind, b is alone", x.pair(396), 5);
        due("395 behind it isn't", x.pair(395), 7);
        due("best of 400", x.bestPhase(400), 396);
    }
}

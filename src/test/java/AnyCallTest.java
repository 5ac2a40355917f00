/**
 * Any calls with any arguments: none throws; and a second object, that gets all of them but for the
 * refused ones, answers the same, as a refused call changes nothing.
 */
final class AnyCallTest {
    private static final Check CHECK = new Check("AnyCallTest");
    /** Together with what Probe asks fewer than the 512 calls for which an object is used. */
    private static final int CALLS = 200;
    private static final int METHODS = 35;
    private static final int[] EDGES = {
        Integer.MIN_VALUE, Integer.MAX_VALUE, -1, -2, 99999, 100000, 400, 401, 40, 41, 99, 100, 999,
    };
    private static final String[] TEXTS = {
        "a=10;b=6A;c=4+2B;d=8;e=5;0a>b3;2b>c4;1a>d9;4cd>e2;e!;",
        "a=1;b=2;0b>a1;0a>b1;",
        "a=99A+99B+99C+99D;b=99A+99A+99A+99A;c=0;d=0A;4ab>c99;4cb>d99;a!;",
        "a=1;b=2;c=3;d=4;e=5;f=6;g=7;h=8;i=9;j=10;k=11;l=12;0kl>a1;1abc>d2;2d>e3;3e>b4;4de>f5;"
            + "5f>g6;0g>h7;1h>i8;2i>j9;3>c99;j!;l!;",
        "a=3;b=1;c=5;d=1;e=4;f=1;g=1A;h=0;i=1;0ace>h1;0>g1;0bdfg>i1;",
        "",
        "a=1;b",
    };

    public static void main(String[] args) {
        for (int run = 1; run <= 2000; run++) {
            anyCalls(run, new Dice(run));
        }
        CHECK.close();
    }

    private static void anyCalls(int run, Dice dice) {
        BufferRoom x = new BufferRoom();
        BufferRoom twin = new BufferRoom();
        for (int calls = 0; calls < CALLS; calls++) {
            int method = dice.below(METHODS);
            if (method == 1 && dice.once(2)) {
                String text = TEXTS[dice.below(TEXTS.length)];
                Rooms.take(x, text);
                Rooms.take(twin, text);
                calls += text.length() / 8 + 1;
                continue;
            }
            int[] a = {number(dice), number(dice), number(dice), number(dice), number(dice)};
            long w = dice.wide();
            int answer = answer(x, method, a, w);
            if (!changesNothing(method, answer)) {
                CHECK.due("run " + run + ", a call of " + method + ": the twin", answer(twin, method, a, w), answer);
            }
        }
        Probe.same(CHECK, "run " + run, x, twin, run % 4);
    }

    private static int number(Dice dice) {
        if (dice.once(12)) {
            return EDGES[dice.below(EDGES.length)];
        }
        return dice.below(dice.once(3) ? 14 : 4) - (dice.once(9) ? 1 : 0);
    }

    private static int answer(BufferRoom x, int method, int[] a, long w) {
        try {
            return call(x, method, a, w);
        } catch (RuntimeException | StackOverflowError e) {
            CHECK.due("method " + method + " threw " + e, 0, 1);
            return 0;
        }
    }

    static int call(BufferRoom x, int method, int[] a, long w) {
        switch (method) {
            case 0: return x.feed(w, a[0]);
            case 1: return x.program();
            case 2: return x.letter(a[0], a[1]);
            case 3: return x.order(a[0]);
            case 4: return x.orderTold(a[0]);
            case 5: return x.load(a[0]);
            case 6: return x.over(a[0]);
            case 7: return x.peak(a[0]);
            case 8: return x.bufferTold(a[0], a[1]);
            case 9: return x.stepTold(a[0], a[1]);
            case 10: return x.leastPeak(a[0]);
            case 11: return x.height(a[0]);
            case 12: return x.heightAt(a[0]);
            case 13: return x.lay(a[0], a[1]);
            case 14: return x.clash();
            case 15: return x.sendOut(a[0], a[1], a[2]);
            case 16: return x.outs();
            case 17: return x.pair(a[0]);
            case 18: return x.bestPhase(a[0]);
            case 19: return x.rule(a[0]);
            case 20: return x.go(a[0]);
            case 21: return x.compact();
            case 22: return x.roomTold(a[0], a[1]);
            case 23: return x.holder(a[0]);
            case 24: return x.again();
            case 25: return x.image();
            case 26: return x.back();
            case 27: return x.kindTold(a[0], a[1], a[2], a[3]);
            case 28: return x.count(a[0]);
            case 29: return x.sheet(a[0], a[1], a[2]);
            case 30: return x.cell(a[0], a[1], a[2]);
            case 31: return x.copy(a[0], a[1], a[2], a[3], a[4]);
            case 32: return x.lays(a[0], a[1], a[2], a[3]);
            case 33: return x.taken(a[0], a[1], a[2]);
            default: return x.cell(a[0], a[1], a[2] & 15);
        }
    }

    /** A refusal, but not of program() (its tape is empty then), nor of lays() (what stood ahead came). */
    private static boolean changesNothing(int method, int answer) {
        if (method == 1 || method == 32 && answer == -12) {
            return false;
        }
        return answer <= -2 || answer == -1 && method == 2;
    }
}

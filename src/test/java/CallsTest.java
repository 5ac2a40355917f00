import java.util.function.Supplier;
import java.util.function.ToIntFunction;

/**
 * Promises 1 to 35, one by one: each refusal at its edge and one beyond it, the first one told of
 * several, and that a refused call changes nothing.
 */
final class CallsTest {
    private static final Check CHECK = new Check("CallsTest");
    private static final int LEAST = Integer.MIN_VALUE, GREATEST = Integer.MAX_VALUE;
    private static final int NONE = -1, BAD = -2, STATE = -3, FULL = -4;

    public static void main(String[] args) {
        feed();
        program();
        letter();
        order();
        places();
        peak();
        bufferTold();
        stepTold();
        leastPeak();
        height();
        heightAt();
        lay();
        clash();
        sendOut();
        pairs();
        rule();
        go();
        compact();
        roomTold();
        holder();
        images();
        kindTold();
        count();
        sheet();
        sorts();
        cell();
        copy();
        copyPlaces();
        lays();
        laysPlaces();
        taken();
        whatStays();
        CHECK.close();
    }

    private static void due(String call, long got, long want) {
        CHECK.due(call, got, want);
    }

    private static void refused(String call, Supplier<BufferRoom> state, ToIntFunction<BufferRoom> refusal, int want) {
        Probe.refused(CHECK, call, state, refusal, want);
    }

    /** Refused in each state alike. */
    private static void everywhere(String call, ToIntFunction<BufferRoom> refusal, int want) {
        refused(call + ", ready", States::ready, refusal, want);
        refused(call + ", gone", States::gone, refusal, want);
        refused(call + ", round", States::round, refusal, want);
        refused(call + ", fresh", States::fresh, refusal, want);
    }

    private static BufferRoom with(String text) {
        return Rooms.with(text);
    }

    // ---- the program

    private static void feed() {
        for (int n : new int[] {LEAST, -1, 0, 9, GREATEST}) {
            everywhere("feed(.., " + n + ")", x -> x.feed('a', n), BAD);
            refused("feed(.., " + n + "): BAD ahead of FULL", States::full, x -> x.feed('a', n), BAD);
        }
        for (int n = 1; n <= 8; n++) {
            int bytes = n;
            due("feed(.., " + n + ")", new BufferRoom().feed('a', n), n);
            refused("feed(.., " + n + ") of a full tape", States::full, x -> x.feed('a', bytes), FULL);
            BufferRoom x = new BufferRoom();
            for (int i = 0; i < 29; i++) {
                x.feed(0, 8);
            }
            x.feed(0, n);
            due("232 and " + n + " and one too many", x.feed(0, 9 - n), FULL);
            due("as many as it was", x.count(1), 232 + n);
            due("232 and " + n + " and the rest", n == 8 ? 240 : x.feed(0, 8 - n), 240);
            due("one more", x.feed(0, 1), FULL);
        }
    }

    private static void program() {
        BufferRoom x = States.gone();
        due("a fault", x.program(), -102);
        due("the tape is empty", x.count(1), 0);
        due("no PROGRAM more", x.count(2), 2);
        due("THE ORDER is told yet", x.count(3), 1);
        due("the place", x.roomTold(0, 0), 2);
        due("the rule", x.roomTold(4, 0), 2);
        due("the plan", x.lay(2, -1), 99999);
        due("the image", x.back(), 1);
        due("found yet", x.heightAt(2), 3);
        due("steps", x.count(0), 4);
        due("of nothing", x.program(), 0);
        due("one PROGRAM more", x.count(2), 3);
        due("a fault at 0", Rooms.take(x, "?"), -100);
        due("no STEPS yet", x.count(0), 0);
        due("a fault at 9", Rooms.take(x, "a=1;b=1;a=1;"), -109);
        StringBuilder text = new StringBuilder("a=1;b=1;c=1;d=1;e=1;f=1;g=1;h=1;i=1;j=1;k=1;l=1;");
        for (char b = 'a'; b <= 'j'; b++) {
            text.append("0lk>").append(b).append("99;");
        }
        text.append("a!;b!;c!;d!;e!;f!;g!;h!;i!;j!;k!;l!;");
        due("ten STEPS", Rooms.take(x, text.toString()), 10);
        due("ten STEPS, and a byte more", Rooms.take(x, text + "a"), -100 - text.length());
        due("ten STEPS, and a digit more", Rooms.take(x, text + "0"), -100 - text.length());
        due("PROGRAMS that were taken", x.count(2), 4);
        // a FAULT far on: nothing of what stood ahead of it is THE PROGRAM's
        due("a fault", Rooms.take(x, "l=5;k=7;5l>k3;l!;?"), -117);
        due("size", x.bufferTold(11, 0), 1);
        due("STEPS", x.count(0), 10);
        due("KIND", x.stepTold(0, 0), 0);
        due("READS", x.stepTold(0, 7), 10);
    }

    private static void letter() {
        for (int l : new int[] {LEAST, -1, 4, GREATEST}) {
            everywhere("letter(" + l + ", 1)", x -> x.letter(l, 1), NONE);
            everywhere("letter(" + l + ", 100): NONE ahead of BAD", x -> x.letter(l, 100), NONE);
        }
        for (int v : new int[] {LEAST, -1, 100, GREATEST}) {
            everywhere("letter(0, " + v + ")", x -> x.letter(0, v), BAD);
            everywhere("letter(3, " + v + ")", x -> x.letter(3, v), BAD);
        }
        for (int l = 0; l < 4; l++) {
            int letter = l;
            refused("letter(" + l + ", 0), gone", States::gone, x -> x.letter(letter, 0), STATE);
            refused("letter(" + l + ", 99), full", States::full, x -> x.letter(letter, 99), STATE);
            BufferRoom x = new BufferRoom();
            due("1 at first", x.letter(l, 99), 1);
            due("99", x.letter(l, 0), 99);
            due("0", x.letter(l, 1), 0);
        }
        BufferRoom x = with("a=1A;0>a1;");
        x.go(1);
        due("the only STEP went", x.letter(0, 2), STATE);
        x.again();
        due("no STEP went", x.letter(0, 2), 1);
        x.image();
        x.go(1);
        due("a STEP went", x.letter(0, 3), STATE);
        x.back();
        due("back at none", x.letter(0, 3), 2);
    }

    private static void order() {
        for (int s : new int[] {LEAST, -1, 4, GREATEST}) {
            everywhere("order(" + s + ")", x -> x.order(s), -5);
        }
        everywhere("order(3)", x -> x.order(3), -11);
        refused("a size of 3", States::ready, x -> x.order(0), BAD);
        refused("a size of 3, gone: BAD ahead of STATE", States::gone, x -> x.order(1), BAD);
        refused("a STEP went", States::gone, x -> x.order(2), STATE);
        refused("all went", States::full, x -> x.order(2), STATE);
        refused("a STEP of -56 is none", () -> cells(200, 0, 1, 3), x -> x.order(2), -100);
        refused("one that READS what isn't WRITTEN", () -> cells(1, 0, 2, 3), x -> x.order(2), -100);
        refused("one twice", () -> cells(0, 0, 1, 2), x -> x.order(2), -101);
        refused("at 2 one that isn't READY", () -> cells(0, 1, 3, 2), x -> x.order(2), -102);
        refused("STEP 4", () -> cells(0, 1, 2, 4), x -> x.order(2), -103);
        refused("STEP -1", () -> cells(0, 1, 2, -1), x -> x.order(2), -103);
        refused("the first place of several", () -> cells(0, 9, 9, 9), x -> x.order(2), -101);
        refused("round", () -> roundOf(0, 1), x -> x.order(2), -100);
        refused("round", () -> roundOf(1, 0), x -> x.order(2), -100);
        refused("round, a size of 3", States::round, x -> x.order(1), BAD);
        refused("round, a size of 4", States::round, x -> x.order(2), BAD);
        BufferRoom x = cells(2, 0, 1, 3);
        due("an ORDER", x.order(2), 4);
        x = with("a=1;");
        x.sheet(0, 0, 1);
        due("a size of 1 for none", x.order(0), BAD);
        x.sheet(0, 0, 0);
        due("of none", x.order(0), 0);
    }

    private static BufferRoom cells(int... steps) {
        BufferRoom x = States.ready();
        for (int i = 0; i < steps.length; i++) {
            x.cell(2, i, steps[i]);
        }
        return x;
    }

    private static BufferRoom roundOf(int... steps) {
        BufferRoom x = States.round();
        Rooms.ints(x, 2, steps);
        return x;
    }

    /** orderTold, load, over. */
    private static void places() {
        for (int k : new int[] {LEAST, -1, 4, GREATEST}) {
            everywhere("orderTold(" + k + ")", x -> x.orderTold(k), -5);
            everywhere("load(" + k + ")", x -> x.load(k), -5);
            everywhere("over(" + k + ")", x -> x.over(k), -5);
        }
        for (int k = 0; k < 2; k++) {
            int place = k;
            refused("orderTold(" + k + "), round", States::round, x -> x.orderTold(place), STATE);
            refused("load(" + k + "), round", States::round, x -> x.load(place), STATE);
            refused("over(" + k + "), round", States::round, x -> x.over(place), STATE);
        }
        refused("orderTold(2), round: -5 ahead of STATE", States::round, x -> x.orderTold(2), -5);
        refused("load(2), round: -5 ahead of STATE", States::round, x -> x.load(2), -5);
        refused("over(2), round: -5 ahead of STATE", States::round, x -> x.over(2), -5);
        refused("over(0): none", States::ready, x -> x.over(0), NONE);
        BufferRoom x = States.ready();
        CHECK.dueAll("orders", Rooms.orderTold(x), 2, 0, 1, 3);
        due("over(3)", x.over(3), 2);
        BufferRoom none = States.fresh();
        due("orderTold(0) of none", none.orderTold(0), -5);
        due("load(0) of none", none.load(0), -5);
        due("over(0) of none", none.over(0), -5);
    }

    private static void peak() {
        for (int what : new int[] {LEAST, -1, 3, GREATEST}) {
            everywhere("peak(" + what + ")", x -> x.peak(what), -5);
        }
        for (int what = 0; what < 3; what++) {
            int asked = what;
            refused("peak(" + what + "), round", States::round, x -> x.peak(asked), STATE);
        }
    }

    private static void bufferTold() {
        for (int b : new int[] {LEAST, -1, 5, 11, 12, GREATEST}) {
            everywhere("bufferTold(" + b + ", 0)", x -> x.bufferTold(b, 0), -5);
            everywhere("bufferTold(" + b + ", 5): -5 ahead of -7", x -> x.bufferTold(b, 5), -5);
        }
        for (int what : new int[] {LEAST, -1, 5, GREATEST}) {
            refused("bufferTold(0, " + what + ")", States::ready, x -> x.bufferTold(0, what), -7);
            refused("bufferTold(0, " + what + "), round", States::round, x -> x.bufferTold(0, what), -7);
        }
        for (int b = 0; b < 3; b++) {
            int buffer = b;
            refused("bufferTold(" + b + ", 3), round", States::round, x -> x.bufferTold(buffer, 3), STATE);
            refused("bufferTold(" + b + ", 4), round", States::round, x -> x.bufferTold(buffer, 4), STATE);
        }
        BufferRoom x = States.round();
        int[][] want = {{3, 0, 0}, {2, 1, 0}, {3, -1, 0}};
        for (int b = 0; b < 3; b++) {
            for (int what = 0; what < 3; what++) {
                due("bufferTold(" + b + ", " + what + "), round", x.bufferTold(b, what), want[b][what]);
            }
        }
        x = with("a=0;l=1;l!;");
        due("of no cells it is there", x.bufferTold(0, 0), 0);
        due("the last letter", x.bufferTold(11, 0), 1);
        due("wanted", x.bufferTold(11, 2), 1);
        due("not wanted", x.bufferTold(0, 2), 0);
        due("one between", x.bufferTold(10, 0), -5);
    }

    private static void stepTold() {
        for (int s : new int[] {LEAST, -1, 4, 10, GREATEST}) {
            everywhere("stepTold(" + s + ", 0)", x -> x.stepTold(s, 0), -5);
            everywhere("stepTold(" + s + ", -1): -5 ahead of -7", x -> x.stepTold(s, -1), -5);
        }
        refused("stepTold(2, 0), round", States::round, x -> x.stepTold(2, 0), -5);
        for (int what : new int[] {LEAST, -1, 7, GREATEST}) {
            refused("stepTold(0, " + what + ")", States::ready, x -> x.stepTold(0, what), -7);
            refused("stepTold(1, " + what + "), round", States::round, x -> x.stepTold(1, what), -7);
        }
        BufferRoom x = with("a=1;b=1;c=1;d=1;e=1;f=1;0>a1;0a>b1;0abcd>e1;");
        due("READS none", x.stepTold(0, 3), 0);
        due("the first of none", x.stepTold(0, 6), -7);
        due("READS one", x.stepTold(1, 6), 0);
        due("the second of one", x.stepTold(1, 7), -7);
        due("READS four", x.stepTold(2, 3), 4);
        due("the fourth of four", x.stepTold(2, 9), 3);
        due("the fifth of four", x.stepTold(2, 10), -7);
        due("without an ORDER", States.round().stepTold(1, 6), 0);
        x = with("a=1;b=1;c=1;d=1;e=1;f=1;0>a1;1>b1;2>c1;3>d1;4>e1;5>f1;");
        int[] isOver = {0, 0, 1, 0, 1, 1};
        for (int s = 0; s < 6; s++) {
            due("OVER of a STEP that READS none, of KIND " + s, x.stepTold(s, 5), isOver[s]);
            due("none is OVER there", x.over(s), NONE);
        }
    }

    private static void leastPeak() {
        for (int i : new int[] {LEAST, -3, 4, GREATEST}) {
            everywhere("leastPeak(" + i + ")", x -> x.leastPeak(i), -5);
        }
        for (int i : new int[] {-2, -1, 0, 1}) {
            refused("leastPeak(" + i + "), round", States::round, x -> x.leastPeak(i), STATE);
        }
        refused("leastPeak(2), round: -5 ahead of STATE", States::round, x -> x.leastPeak(2), -5);
        refused("leastPeak(0), no STEPS", States::fresh, x -> x.leastPeak(0), -5);
        BufferRoom x = States.gone();
        due("with STEPS that went", x.leastPeak(-2), 16);
        due("the last STEP", x.leastPeak(3), 3);
    }

    // ---- places

    private static void height() {
        for (int s : new int[] {LEAST, -1, 4, GREATEST}) {
            everywhere("height(" + s + ")", x -> x.height(s), -5);
        }
        everywhere("height(3)", x -> x.height(3), -11);
        for (int b : new int[] {LEAST, -1, 5, 11, 12, 32, GREATEST}) {
            refused("the last is " + b, () -> ofInts(States.ready(), 0, 1, b), x -> x.height(2), BAD);
            refused("the first is " + b, () -> ofInts(States.gone(), b, 1, 0), x -> x.height(2), BAD);
        }
        refused("seven", () -> ofInts(States.ready(), 0, 1, 2, 3, 4, 0, 1), x -> x.height(2), BAD);
        refused("seven, none", () -> ofInts(States.fresh(), 0, 0, 0, 0, 0, 0, 0), x -> x.height(2), BAD);
        refused("one, none", () -> ofInts(States.fresh(), 0), x -> x.height(2), BAD);
        refused("BAD ahead of STATE", () -> ofInts(States.round(), 0, 3), x -> x.height(2), BAD);
        refused("seven ahead of STATE", () -> ofInts(States.round(), 0, 0, 0, 0, 0, 0, 0), x -> x.height(2),
            BAD);
        refused("STATE", () -> ofInts(States.round(), 0, 1, 2), x -> x.height(2), STATE);
        refused("STATE, of none", () -> ofInts(States.round()), x -> x.height(2), STATE);
        due("of none", ofInts(States.fresh()).height(2), 0);
        due("six", ofInts(States.ready(), 0, 1, 2, 3, 4, 4).height(2), 18);
        BufferRoom x = States.ready();
        x.cell(0, 0, 0);
        due("of bytes", x.height(0), 8);
        x.cell(0, 1, 255);
        due("255 of bytes", x.height(0), BAD);
    }

    private static BufferRoom ofInts(BufferRoom x, int... numbers) {
        Rooms.ints(x, 2, numbers);
        return x;
    }

    private static void heightAt() {
        for (int i : new int[] {LEAST, -1, 3, 6, GREATEST}) {
            everywhere("heightAt(" + i + ")", x -> x.heightAt(i), -5);
        }
        refused("heightAt(0), none was found", States::fresh, x -> x.heightAt(0), -5);
        BufferRoom x = States.ready();
        int[] want = {0, 3, 3};
        for (int i = 0; i < 3; i++) {
            due("heightAt(" + i + ")", x.heightAt(i), want[i]);
            due("heightAt(" + i + ") of a PROGRAM ahead", States.round().heightAt(i), want[i]);
        }
        Rooms.height(x);
        due("found of none", x.heightAt(0), -5);
        Rooms.height(x, 0, 0, 0, 0, 0, 0);
        due("the sixth", x.heightAt(5), 30);
        due("the seventh", x.heightAt(6), -5);
    }

    private static void lay() {
        for (int b : new int[] {LEAST, -1, 5, 11, 12, GREATEST}) {
            everywhere("lay(" + b + ", 0)", x -> x.lay(b, 0), -5);
            everywhere("lay(" + b + ", -2): -5 ahead of BAD", x -> x.lay(b, -2), -5);
        }
        for (int at : new int[] {LEAST, -2, 100000, GREATEST}) {
            refused("lay(0, " + at + ")", States::ready, x -> x.lay(0, at), BAD);
            refused("lay(2, " + at + ")", States::gone, x -> x.lay(2, at), BAD);
            refused("lay(1, " + at + "), round", States::round, x -> x.lay(1, at), BAD);
        }
        BufferRoom x = with("a=1;l=1;");
        due("nowhere at first", x.lay(11, 0), -1);
        due("0", x.lay(11, 99999), 0);
        due("99999", x.lay(11, -1), 99999);
        due("nowhere", x.lay(11, 1), -1);
        due("another one", x.lay(0, -1), -1);
        due("one between", x.lay(10, 0), -5);
    }

    private static void clash() {
        refused("clash(), round", States::round, x -> x.clash(), STATE);
        refused("clash()", States::ready, x -> x.clash(), NONE);
        refused("clash(), gone", States::gone, x -> x.clash(), NONE);
        refused("clash(), fresh", States::fresh, x -> x.clash(), NONE);
    }

    private static void sendOut() {
        for (int s : new int[] {LEAST, -1, 4, GREATEST}) {
            everywhere("sendOut(" + s + ", 9, 9)", x -> x.sendOut(s, 9, 9), -5);
            everywhere("sendOut(" + s + ", -1, 0): -5 ahead of BAD", x -> x.sendOut(s, -1, 0), -5);
        }
        everywhere("sendOut(3, 9, 9)", x -> x.sendOut(3, 9, 9), -11);
        everywhere("sendOut(3, -1, 0): -11 ahead of BAD", x -> x.sendOut(3, -1, 0), -11);
        for (int room : new int[] {LEAST, -1, 100000, GREATEST}) {
            refused("a room of " + room, States::ready, x -> x.sendOut(1, room, 1), BAD);
            refused("a room of " + room + ", round", States::round, x -> x.sendOut(1, room, 1), BAD);
        }
        for (int rate : new int[] {LEAST, -1, 0, 100, GREATEST}) {
            refused("a rate of " + rate, States::ready, x -> x.sendOut(1, 99, rate), BAD);
            refused("a rate of " + rate + ", round", States::round, x -> x.sendOut(1, 99, rate), BAD);
        }
        for (int b : new int[] {LEAST, -1, 5, 11, 12, 32, GREATEST}) {
            refused("the last is " + b, () -> ofInts(States.ready(), 0, 1, b), x -> x.sendOut(2, 99, 1), BAD);
        }
        refused("seven", () -> ofInts(States.ready(), 0, 1, 2, 3, 4, 0, 1), x -> x.sendOut(2, 99, 1), BAD);
        refused("no BUFFER ahead of STATE", () -> ofInts(States.round(), 3), x -> x.sendOut(2, 99, 1), BAD);
        refused("seven ahead of STATE", () -> ofInts(States.round(), 0, 0, 0, 0, 0, 0, 0),
            x -> x.sendOut(2, 99, 1), BAD);
        refused("STATE", States::round, x -> x.sendOut(1, 99, 1), STATE);
        refused("no set does", States::ready, x -> x.sendOut(1, 5, 1), -6);
        refused("no room", States::gone, x -> x.sendOut(1, 0, 99), -6);
        BufferRoom x = States.ready();
        int peak = x.peak(0);
        due("the greatest room, the least rate", x.sendOut(1, 99999, 1), 0);
        due("the least room that does for none", Rooms.sendOut(x, peak, 99), 0);
        due("a cell less", Rooms.sendOut(x, peak - 1, 99), -6);
        due("six", Rooms.sendOut(x, 99999, 1, 0, 1, 2, 3, 4, 4), 0);
        due("no STEPS, no room", Rooms.sendOut(new BufferRoom(), 0, 99), 0);
        due("outs at first", new BufferRoom().outs(), 0);
        due("outs of a PROGRAM ahead", States.gone().outs(), 2);
    }

    /** pair, bestPhase. */
    private static void pairs() {
        for (int phase : new int[] {LEAST, -1, 401, GREATEST}) {
            everywhere("pair(" + phase + ")", x -> x.pair(phase), BAD);
            everywhere("bestPhase(" + phase + ")", x -> x.bestPhase(phase), BAD);
        }
        for (int phase : new int[] {0, 1, 400}) {
            refused("pair(" + phase + "), round", States::round, x -> x.pair(phase), STATE);
            refused("bestPhase(" + phase + "), round", States::round, x -> x.bestPhase(phase), STATE);
            due("pair(" + phase + "), no STEPS", new BufferRoom().pair(phase), 0);
            due("bestPhase(" + phase + "), no STEPS", new BufferRoom().bestPhase(phase), 0);
        }
    }

    // ---- as one goes

    private static void rule() {
        for (int r : new int[] {LEAST, -1, 3, GREATEST}) {
            everywhere("rule(" + r + ")", x -> x.rule(r), BAD);
        }
        BufferRoom x = States.gone();
        int[] next = {0, 1, 2, 2, 0};
        int before = 2;
        for (int r : next) {
            due("rule(" + r + "), gone", x.rule(r), before);
            before = r;
        }
    }

    private static void go() {
        for (int n : new int[] {LEAST, -1, 0, 13, GREATEST}) {
            everywhere("go(" + n + ")", x -> x.go(n), BAD);
            refused("go(" + n + "), all went: BAD ahead of STATE", States::full, x -> x.go(n), BAD);
        }
        for (int n = 1; n <= 12; n++) {
            int steps = n;
            refused("go(" + n + "), round", States::round, x -> x.go(steps), STATE);
            refused("go(" + n + "), no STEPS", States::fresh, x -> x.go(steps), STATE);
            refused("go(" + n + "), all went", States::full, x -> x.go(steps), STATE);
            if (n <= 2) {
                due("go(" + n + "), gone", States.gone().go(n), 2 + n);
            } else {
                refused("go(" + n + "), gone", States::gone, x -> x.go(steps), STATE);
            }
        }
        StringBuilder text = new StringBuilder();
        for (char b = 'a'; b <= 'j'; b++) {
            text.append(b).append("=1;0>").append(b).append("1;");
        }
        due("all ten", with(text.toString()).go(10), 10);
        due("more than can ever be", with(text.toString()).go(11), STATE);
        due("more than can ever be", with(text.toString()).go(12), STATE);
    }

    private static void compact() {
        due("nothing lies", States.fresh().compact(), 0);
        due("nothing lies", States.ready().compact(), 0);
        due("nothing lies", States.round().compact(), 0);
        due("all went", States.full().compact(), 0);
    }

    private static void roomTold() {
        for (int what : new int[] {LEAST, -1, 5, GREATEST}) {
            everywhere("roomTold(" + what + ", 0)", x -> x.roomTold(what, 0), -7);
            everywhere("roomTold(" + what + ", 99): no BUFFER is asked for", x -> x.roomTold(what, 99), -7);
        }
        for (int b : new int[] {LEAST, -1, 5, 11, 12, GREATEST}) {
            everywhere("roomTold(3, " + b + ")", x -> x.roomTold(3, b), -5);
        }
        BufferRoom x = States.gone();
        int[] want = {2, 11, 11, -5, 2};
        for (int what = 0; what < 5; what++) {
            due("roomTold(" + what + ", -1)", x.roomTold(what, -1), want[what]);
            due("roomTold(" + what + ", 12)", x.roomTold(what, 12), want[what]);
        }
        due("nowhere", x.roomTold(3, 0), -1);
        due("nowhere, round", States.round().roomTold(3, 2), -1);
    }

    private static void holder() {
        for (int cell : new int[] {LEAST, -1, 100000, GREATEST}) {
            everywhere("holder(" + cell + ")", x -> x.holder(cell), BAD);
        }
        for (int cell : new int[] {0, 1, 99999}) {
            refused("holder(" + cell + "), ready", States::ready, x -> x.holder(cell), NONE);
            refused("holder(" + cell + "), fresh", States::fresh, x -> x.holder(cell), NONE);
            refused("holder(" + cell + "), round", States::round, x -> x.holder(cell), NONE);
        }
    }

    /** again, image, back. */
    private static void images() {
        refused("back(), fresh", States::fresh, x -> x.back(), STATE);
        refused("back(), ready", States::ready, x -> x.back(), STATE);
        due("back(), round", States.round().back(), 0);
        due("back(), gone", States.gone().back(), 1);
        due("back(), all went", States.full().back(), 1);
        due("again(), fresh", States.fresh().again(), 0);
        due("again(), round", States.round().again(), 0);
        due("again(), gone", States.gone().again(), 2);
        due("again(), all went", States.full().again(), 4);
        due("image(), fresh", States.fresh().image(), 0);
        due("image(), gone", States.gone().image(), 2);
        due("image(), all went", States.full().image(), 4);
        BufferRoom x = States.full();
        x.image();
        x.again();
        due("back() where all went", x.back(), 4);
        due("no more", x.go(1), STATE);
    }

    private static void kindTold() {
        for (int kind : new int[] {LEAST, -1, 6, GREATEST}) {
            everywhere("kindTold(" + kind + ", 0, 0, 0)", x -> x.kindTold(kind, 0, 0, 0), BAD);
        }
        for (int what : new int[] {LEAST, -1, 3, GREATEST}) {
            everywhere("kindTold(0, " + what + ", 0, 0)", x -> x.kindTold(0, what, 0, 0), BAD);
        }
        for (int wrong : new int[] {LEAST, -1, 1000, GREATEST}) {
            for (int w = 0; w < 3; w++) {
                int what = w;
                refused("kindTold(5, " + w + ", " + wrong + ", 0)", States::gone,
                    x -> x.kindTold(5, what, wrong, 0), BAD);
                refused("kindTold(5, " + w + ", 0, " + wrong + ")", States::gone,
                    x -> x.kindTold(5, what, 0, wrong), BAD);
            }
        }
        int[] ticks = {999, 500, 999, 502, 2997, 999};
        int[] scratch = {0, 0, 999, 499, 1998, 124};
        int[] over = {0, 0, 1, 0, 1, 1};
        int[] ticksOfNone = {0, 0, 0, 2, 0, 0};
        BufferRoom x = States.round();
        for (int kind = 0; kind < 6; kind++) {
            due("TICKS of 999, " + kind, x.kindTold(kind, 0, 999, 0), ticks[kind]);
            due("TICKS of 0, " + kind, x.kindTold(kind, 0, 0, 999), ticksOfNone[kind]);
            due("SCRATCH of 999, " + kind, x.kindTold(kind, 1, 999, 999), scratch[kind]);
            due("SCRATCH of 0, " + kind, x.kindTold(kind, 1, 0, 0), 0);
            due("OVER, " + kind, x.kindTold(kind, 2, 0, 0), over[kind]);
        }
    }

    private static void count() {
        for (int what : new int[] {LEAST, -1, 8, GREATEST}) {
            everywhere("count(" + what + ")", x -> x.count(what), BAD);
        }
        int[] fresh = {0, 0, 0, 0, 1, 1, 1, 1};
        int[] full = {4, 240, 2, 1, 3, 2, 1, 1};
        int[] round = {2, 1, 4, 0, 3, 2, 7, 1};
        for (int what = 0; what < 8; what++) {
            due("count(" + what + "), fresh", States.fresh().count(what), fresh[what]);
            due("count(" + what + "), full", States.full().count(what), full[what]);
            due("count(" + what + "), round", States.round().count(what), round[what]);
        }
    }

    // ---- the host

    private static void sheet() {
        for (int s : new int[] {LEAST, -1, 4, GREATEST}) {
            everywhere("sheet(" + s + ", 0, 1)", x -> x.sheet(s, 0, 1), BAD);
            everywhere("sheet(" + s + ", -1, 1)", x -> x.sheet(s, -1, 1), BAD);
            everywhere("sheet(" + s + ", 0, -1): BAD ahead of -14", x -> x.sheet(s, 0, -1), BAD);
        }
        for (int sort : new int[] {LEAST, -2, 3, GREATEST}) {
            everywhere("sheet(0, " + sort + ", 1)", x -> x.sheet(0, sort, 1), BAD);
            everywhere("sheet(1, " + sort + ", -1): BAD ahead of -14", x -> x.sheet(1, sort, -1), BAD);
        }
        for (int n : new int[] {41, GREATEST}) {
            everywhere("sheet(0, 0, " + n + ")", x -> x.sheet(0, 0, n), BAD);
            everywhere("sheet(1, 2, " + n + ")", x -> x.sheet(1, 2, n), BAD);
        }
        for (int n : new int[] {LEAST, -1}) {
            everywhere("sheet(0, 1, " + n + ")", x -> x.sheet(0, 1, n), -14);
            everywhere("sheet(2, 2, " + n + ")", x -> x.sheet(2, 2, n), -14);
        }
        for (int n : new int[] {LEAST, -1, 0, 40, 41, GREATEST}) {
            BufferRoom x = States.ready();
            due("sheet(2, -1, " + n + ")", x.sheet(2, -1, n), 1);
            due("it is missing", x.order(2), -11);
        }
        for (int sort = 0; sort < 3; sort++) {
            BufferRoom x = States.ready();
            due("of 40", x.sheet(1, sort, 40), 1);
            due("the last", x.cell(1, 39, 7), 1);
            due("one behind it", x.cell(1, 40, 7), -12);
            due("of 40 anew", x.sheet(1, sort, 40), 1);
            x.sheet(3, sort, 2);
            x.copy(1, 39, 3, 1, 1);
            due("its last is 0 again", x.lays(3, sort, 0, 1), 1);
            due("its last is 0 again", x.lay(0, -1), 0);
            due("of 0", x.sheet(1, sort, 0), 1);
            due("none", x.cell(1, 0, 7), -12);
        }
    }

    /** What a SHEET tells does not hang on its sort or its number. */
    private static void sorts() {
        for (int sort = 0; sort < 3; sort++) {
            for (int s = 0; s < 4; s++) {
                String by = ", by SHEET " + s + " of sort " + sort;
                BufferRoom x = with("a=4;b=3;c=2;0a>c1;1>b1;l=5;l!;");
                x.sheet(s, sort, 2);
                x.cell(s, 0, 1);
                due("order" + by, x.order(s), 2);
                due("its first" + by, x.orderTold(0), 1);
                x.cell(s, 1, 11);
                due("height" + by, x.height(s), 8);
                due("where l lies" + by, x.heightAt(1), 3);
                due("sendOut" + by, x.sendOut(s, 7, 4), 3);
                due("l is OUT" + by, x.outs(), 1 << 11);
                due("lays" + by, x.lays(s, sort, 0, 1), 1);
                due("b lies" + by, x.lay(1, -1), 11);
            }
        }
    }

    private static void cell() {
        for (int s : new int[] {LEAST, -1, 4, GREATEST}) {
            everywhere("cell(" + s + ", 0, 0)", x -> x.cell(s, 0, 0), BAD);
            everywhere("cell(" + s + ", -1, 0): BAD ahead of -12", x -> x.cell(s, -1, 0), BAD);
        }
        for (int i : new int[] {LEAST, -1, 0, 40, GREATEST}) {
            everywhere("cell(3, " + i + ", 0)", x -> x.cell(3, i, 0), -11);
        }
        for (int i : new int[] {LEAST, -1, 3, 39, 40, GREATEST}) {
            refused("cell(0, " + i + ", 9)", States::ready, x -> x.cell(0, i, 9), -12);
            refused("cell(1, " + i + ", 9)", States::gone, x -> x.cell(1, i, 9), -12);
        }
        BufferRoom x = States.ready();
        due("the first", x.cell(0, 0, GREATEST), 1);
        due("the last", x.cell(0, 2, LEAST), 1);
    }

    private static void copy() {
        for (int s : new int[] {LEAST, -1, 4, GREATEST}) {
            everywhere("copy(" + s + ", 0, 1, 0, 1)", x -> x.copy(s, 0, 1, 0, 1), BAD);
            everywhere("copy(1, 0, " + s + ", 0, 1)", x -> x.copy(1, 0, s, 0, 1), BAD);
            everywhere("copy(3, 0, " + s + ", -1, 1): BAD ahead of -11", x -> x.copy(3, 0, s, -1, 1), BAD);
            everywhere("copy(" + s + ", 0, 3, 0, -1): BAD ahead of -11", x -> x.copy(s, 0, 3, 0, -1), BAD);
        }
        everywhere("copy(3, 0, 1, 0, 1)", x -> x.copy(3, 0, 1, 0, 1), -11);
        everywhere("copy(1, 0, 3, 0, 1)", x -> x.copy(1, 0, 3, 0, 1), -11);
        everywhere("copy(3, 0, 3, 0, 0)", x -> x.copy(3, 0, 3, 0, 0), -11);
        everywhere("copy(3, -1, 1, 0, 1): -11 ahead of -12", x -> x.copy(3, -1, 1, 0, 1), -11);
        everywhere("copy(1, 0, 3, 0, -1): -11 ahead of -12", x -> x.copy(1, 0, 3, 0, -1), -11);
        refused("bytes to ints", States::ready, x -> x.copy(0, 0, 1, 0, 1), -13);
        refused("ints to bytes", States::ready, x -> x.copy(1, 0, 0, 0, 1), -13);
        refused("unlike, none of them", States::ready, x -> x.copy(1, 0, 0, 0, 0), -13);
        refused("unlike: -13 ahead of -12", States::ready, x -> x.copy(1, -1, 0, 9, -1), -13);
        refused("shorts to bytes", () -> shorts(), x -> x.copy(2, 0, 0, 0, 1), -13);
        refused("shorts to ints", () -> shorts(), x -> x.copy(2, 0, 1, 0, 1), -13);
    }

    private static BufferRoom shorts() {
        BufferRoom x = States.ready();
        x.sheet(2, 1, 3);
        x.cell(2, 1, 300);
        return x;
    }

    /** From a SHEET of 3 to a SHEET of 4, and back. */
    private static void copyPlaces() {
        int[][] outside = {
            {1, 0, 2, 0, 4}, {1, 1, 2, 0, 3}, {1, 3, 2, 0, 1}, {1, 4, 2, 0, 0}, {1, -1, 2, 0, 1}, {1, -1, 2, 0, 0},
            {1, 0, 2, 2, 3}, {1, 0, 2, 4, 1}, {1, 0, 2, 5, 0}, {1, 0, 2, -1, 1}, {1, 0, 2, 0, -1}, {2, 0, 1, 0, 4},
            {2, 2, 1, 0, 3}, {1, 0, 2, 0, LEAST}, {1, 0, 2, 0, GREATEST}, {1, GREATEST, 2, 0, 1},
            {1, GREATEST, 2, GREATEST, GREATEST}, {1, LEAST, 2, 0, 1}, {1, 0, 2, LEAST, LEAST}, {1, 0, 2, GREATEST, 2},
            {1, 2, 1, 0, 2}, {1, 0, 1, 2, 2}, {1, -1, 2, -1, -1},
        };
        for (int[] a : outside) {
            refused("copy of " + java.util.Arrays.toString(a), States::ready,
                x -> x.copy(a[0], a[1], a[2], a[3], a[4]), -12);
        }
        int[][] inside = {
            {1, 0, 2, 0, 3}, {1, 0, 2, 1, 3}, {1, 3, 2, 4, 0}, {1, 0, 2, 0, 0}, {1, 2, 2, 3, 1}, {2, 1, 1, 0, 3},
            {1, 0, 1, 0, 3}, {1, 0, 1, 1, 2}, {1, 1, 1, 0, 2}, {1, 3, 1, 3, 0},
        };
        for (int[] a : inside) {
            due("copy of " + java.util.Arrays.toString(a),
                States.ready().copy(a[0], a[1], a[2], a[3], a[4]), a[4]);
        }
    }

    private static void lays() {
        for (int s : new int[] {LEAST, -1, 4, GREATEST}) {
            everywhere("lays(" + s + ", 2, 0, 1)", x -> x.lays(s, 2, 0, 1), BAD);
        }
        for (int sort : new int[] {LEAST, -1, 3, GREATEST}) {
            everywhere("lays(1, " + sort + ", 0, 1): BAD ahead of -13", x -> x.lays(1, sort, 0, 1), BAD);
            everywhere("lays(3, " + sort + ", 0, 1): BAD ahead of -11", x -> x.lays(3, sort, 0, 1), BAD);
        }
        for (int n : new int[] {LEAST, -1, 21, GREATEST}) {
            everywhere("lays(1, 2, 0, " + n + ")", x -> x.lays(1, 2, 0, n), BAD);
            everywhere("lays(3, 0, 0, " + n + "): BAD ahead of -11", x -> x.lays(3, 0, 0, n), BAD);
            everywhere("lays(1, 0, -1, " + n + "): BAD ahead of -13, -12", x -> x.lays(1, 0, -1, n), BAD);
        }
        for (int sort = 0; sort < 3; sort++) {
            int other = sort;
            everywhere("lays(3, " + sort + ", 0, 1)", x -> x.lays(3, other, 0, 1), -11);
            everywhere("lays(3, " + sort + ", -1, 0): -11 ahead of -12", x -> x.lays(3, other, -1, 0), -11);
            if (sort < 2) {
                refused("lays(1, " + sort + ", 0, 1)", States::ready, x -> x.lays(1, other, 0, 1), -13);
                refused("lays(1, " + sort + ", -1, 1): -13 ahead of -12", States::ready,
                    x -> x.lays(1, other, -1, 1), -13);
                refused("lays(1, " + sort + ", 0, 0): -13 of none", States::ready,
                    x -> x.lays(1, other, 0, 0), -13);
            }
        }
        refused("shorts as bytes", () -> shorts(), x -> x.lays(2, 0, 0, 1), -13);
        refused("shorts as ints", () -> shorts(), x -> x.lays(2, 2, 0, 1), -13);
        refused("bytes as shorts", () -> shorts(), x -> x.lays(0, 1, 0, 1), -13);
    }

    private static void laysPlaces() {
        for (int from : new int[] {LEAST, -2, -1, 2, 3, 4, GREATEST - 1, GREATEST}) {
            refused("lays(1, 2, " + from + ", 1)", States::ready, x -> x.lays(1, 2, from, 1), -12);
            refused("lays(1, 2, " + from + ", 20)", States::ready, x -> x.lays(1, 2, from, 20), -12);
        }
        BufferRoom x = States.ready();
        due("the last two", x.lays(1, 2, 1, 1), 1);
        due("came", x.lay(0, -1), 2);
        due("the second two are outside", x.lays(1, 2, 0, 2), -12);
        due("what stood ahead came", x.lay(1, -1), 0);
        due("the second two are outside from 1 on", x.lays(1, 2, 1, 2), -12);
        due("what stood ahead came", x.lay(0, -1), 2);
        x.sheet(0, 2, 40);
        x.cell(0, 39, 5);
        due("all 40", x.lays(0, 2, 0, 20), 20);
        due("the last one of all", x.lay(0, -1), 5);
        due("one too far", x.lays(0, 2, 1, 20), -12);
        due("those ahead", x.lay(0, -1), 0);
        due("none of them", x.lays(0, 2, 40, 0), 0);
        due("none of them, of a SHEET of none", none(x).lays(0, 2, 0, 0), 0);
        due("one of a SHEET of none", x.lays(0, 2, 0, 1), -12);
    }

    private static BufferRoom none(BufferRoom x) {
        x.sheet(0, 2, 0);
        return x;
    }

    private static void taken() {
        for (int what : new int[] {LEAST, -1, 2, GREATEST}) {
            everywhere("taken(" + what + ", 0, 0)", x -> x.taken(what, 0, 0), BAD);
            everywhere("taken(" + what + ", 99, 6): BAD ahead of -11", x -> x.taken(what, 99, 6), BAD);
        }
        for (int kind : new int[] {LEAST, -1, 7, GREATEST}) {
            everywhere("taken(0, 0, " + kind + ")", x -> x.taken(0, 0, kind), BAD);
            everywhere("taken(1, 99, " + kind + "): BAD ahead of -11", x -> x.taken(1, 99, kind), BAD);
        }
        for (int i : new int[] {LEAST, -1, 5, 11, 12, GREATEST}) {
            everywhere("taken(0, " + i + ", 0)", x -> x.taken(0, i, 0), -11);
            everywhere("taken(1, " + i + ", 6)", x -> x.taken(1, i, 6), -11);
            everywhere("taken(0, " + i + ", 6): -11 ahead of -13", x -> x.taken(0, i, 6), -11);
            everywhere("taken(1, " + i + ", 0): -11 ahead of -13", x -> x.taken(1, i, 0), -11);
        }
        refused("taken(0, 0, 6)", States::ready, x -> x.taken(0, 0, 6), -13);
        for (int k = 0; k < 6; k++) {
            int kind = k;
            refused("taken(1, 0, " + k + ")", States::ready, x -> x.taken(1, 0, kind), -13);
        }
        int[][] isOne = {{1, 0, 0, 0, 0, 0}, {1, 0, 1, 0, 0, 0}, {1, 1, 0, 0, 0, 0}, {1, 0, 1, 0, 1, 0}};
        BufferRoom x = States.ready();
        for (int s = 0; s < 4; s++) {
            for (int kind = 0; kind < 6; kind++) {
                due("taken(0, " + s + ", " + kind + ")", x.taken(0, s, kind), isOne[s][kind] == 1 ? s : -13);
            }
        }
        due("no STEP is taken by THE ORDER's place", x.taken(0, 0, 0), 0);
    }

    // ---- what a call does not tell of stays as it is

    private static void whatStays() {
        BufferRoom x = States.gone();
        x.again();
        stays("again", x, 2, 3, 1);
        due("again: least peak", x.leastPeak(-1), 21);
        x = States.ready();
        x.image();
        x.cell(2, 0, 0);
        x.cell(2, 1, 2);
        due("another ORDER", x.order(2), 4);
        stays("order", x, 1, 3, 0);
        x = States.gone();
        x.again();
        x.letter(0, 9);
        stays("letter", x, 2, 9, 1);
        x = States.gone();
        x.go(2);
        stays("go", x, 2, 3, 1);
        x = States.gone();
        x.compact();
        stays("compact", x, 2, 3, 1);
        x = States.gone();
        x.back();
        x.rule(0);
        stays("back, rule", x, 0, 3, 1);
        x = States.gone();
        x.leastPeak(0);
        x.pair(1);
        x.bestPhase(9);
        x.clash();
        Rooms.feed(x, "b=1;");
        stays("what only asks, and feed", x, 2, 3, 1);
        x = States.gone();
        for (int s = 0; s < 3; s++) {
            x.sheet(s, -1, 0);
        }
        stays("sheets that are missing", x, 2, 3, 1);
        x = States.full();
        x.program();
        stays("a fault", x, 2, 3, 1);
    }

    /** Of States.gone(): THE ORDER is told, a plan is there, a HEIGHT and OUTS were found. */
    private static void stays(String call, BufferRoom x, int rule, int letter, int image) {
        due(call + ": the rule", x.roomTold(4, 0), rule);
        due(call + ": A", x.count(4), letter);
        due(call + ": B", x.count(5), 2);
        due(call + ": an ORDER is told", x.count(3), 1);
        due(call + ": THE ORDER's last", x.orderTold(3), 3);
        due(call + ": HEIGHT", x.heightAt(0), 0);
        due(call + ": HEIGHT", x.heightAt(2), 3);
        due(call + ": HEIGHT", x.heightAt(3), -5);
        due(call + ": outs", x.outs(), 2);
        due(call + ": PROGRAMS", x.count(2), 2);
        due(call + ": THE PLAN of a", x.lay(0, -1), 4);
        due(call + ": THE PLAN of b", x.lay(1, -1), -1);
        due(call + ": THE PLAN of c", x.lay(2, -1), 99999);
        due(call + ": THE IMAGE", x.back(), image);
    }
}

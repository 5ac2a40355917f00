import java.util.ArrayList;
import java.util.List;
import java.util.Map;
import java.util.function.Consumer;
import java.util.function.Supplier;
import java.util.function.ToIntFunction;

/**
 * What a call that is done leaves as it is: one that asks changes nothing, each other one just what
 * it tells of. And what was asked ahead of a call does not count behind it.
 */
final class FrameTest {
    private static final Check CHECK = new Check("FrameTest");

    public static void main(String[] args) {
        kept();
        asking("rich", States::rich);
        asking("rested", States::rested);
        asking("gone", States::gone);
        asking("full", States::full);
        asking("ready", States::ready);
        telling();
        finding();
        walking();
        hosting();
        withoutOrder();
        often();
        foundAnew();
        askedAheadOfBack();
        apart();
        CHECK.close();
    }

    // ---- all that is kept

    private static final int[] OF_PROGRAM = {
        3, 1, 5, 3, 2, 4, 9, 1, 0, 2, 2, 11, 1, 0, 0, 0, 0, -5, -5, -5, -5, -5, -5, -5, 1,
    };
    private static final int[] PLAN = {4, 99999, 8, 5, -5, -5, -5, -5, -5, -5, -5, 6};
    private static final int[] LYING = {-1, 8, -1, 21, -5, -5, -5, -5, -5, -5, -5, -1};
    private static final int[] LYING_IN_IMAGE = {-1, 8, 6, -1, -5, -5, -5, -5, -5, -5, -5, -1};

    /** What Probe tells of, so that no question ahead of another one spoils it. */
    private static void kept() {
        for (int spare = 0; spare < 4; spare++) {
            Map<String, List<Integer>> parts = Probe.parts(States.rich(), spare);
            keeps(parts, "bytes", 5);
            keeps(parts, "programs", 2);
            keeps(parts, "told", 1);
            keeps(parts, "letters", 2, 3, 4, 6);
            keeps(parts, "program", OF_PROGRAM);
            keeps(parts, "sizes", 4, 13, 4, 13, 5, 0, 17, 5);
            keeps(parts, "lives", 0, 0, 0, 2, 0, 1, 1, 2, 2, 2);
            keeps(parts, "order", 1, 0, 0, 1, 2, 2, -5);
            keeps(parts, "loads", 34, 0, 30, -1, 31, 1, -5);
            keeps(parts, "least", 34);
            keeps(parts, "heights", 0, 0, 13, 1, 17, 2, -5);
            keeps(parts, "outs", 4);
            keeps(parts, "place", 2);
            keeps(parts, "high", 38);
            keeps(parts, "rule", 2);
            keeps(parts, "lying", LYING);
            keeps(parts, "plan", PLAN);
            keeps(parts, "image", 1);
            keeps(parts, "place of the image", 1);
            keeps(parts, "high of the image", 34);
            keeps(parts, "rule of the image", 1);
            keeps(parts, "lying of the image", LYING_IN_IMAGE);
            keeps(parts, "letters of the image", 3, 2, 2, 5);
            keeps(parts, "sizes of the image", 6, 10, 2, 11, 5);
            keeps(parts, "text", -105, 3, 0);
            keptSheets(parts, spare);
        }
    }

    private static void keptSheets(Map<String, List<Integer>> parts, int spare) {
        keeps(parts, "sort 0", 0, -13, -13);
        keeps(parts, "sort 1", -13, -13, 0);
        keeps(parts, "sort 2", -13, -13, 0);
        keeps(parts, "sort 3", -13, 0, -13);
        int[][] numbers = {
            {1, 1, 4, 1, 1, 3, 1, 1, 2, 1, 1, 1, 1, 1, 0}, {1, 1, 1, 1, 1, 2, 1, 1, 0, -12},
            {1, 1, 1, 1, 1, 0, 1, 1, 2, -12}, {1, 1, 500, 1, 1, 501, 1, 1, 502, 1, 1, 503, -12},
        };
        for (int s = 0; s < 4; s++) {
            if (s != spare) {
                keeps(parts, "sheet " + s, numbers[s]);
            }
        }
    }

    private static void keeps(Map<String, List<Integer>> parts, String name, int... want) {
        CHECK.dueAll("rich keeps " + name, parts.get(name).stream().mapToInt(n -> n).toArray(), want);
    }

    // ---- calls that ask

    private static void asking(String name, Supplier<BufferRoom> state) {
        BufferRoom x = state.get();
        for (int k = 0; k < x.count(0); k++) {
            int place = k;
            asks(name + ", orderTold " + k, state, y -> y.orderTold(place));
            asks(name + ", load " + k, state, y -> y.load(place));
            asks(name + ", over " + k, state, y -> y.over(place));
            asks(name + ", leastPeak " + k, state, y -> y.leastPeak(place));
            for (int w = 0; w < 7; w++) {
                int what = w;
                asks(name + ", stepTold " + k + ", " + w, state, y -> y.stepTold(place, what));
            }
            for (int kd = 0; kd < 6; kd++) {
                int kind = kd;
                asks(name + ", taken " + k + ", " + kd, state, y -> y.taken(0, place, kind));
            }
        }
        asks(name + ", leastPeak -1", state, y -> y.leastPeak(-1));
        asks(name + ", leastPeak -2", state, y -> y.leastPeak(-2));
        for (int b = 0; b < 12; b++) {
            if (x.bufferTold(b, 0) >= 0) {
                askingOf(name + ", BUFFER " + b, state, b);
            }
        }
        for (int i = 0; i < 8; i++) {
            int what = i;
            asks(name + ", count " + i, state, y -> y.count(what));
            asks(name + ", holder " + i, state, y -> y.holder(5 * what));
        }
        for (int i = 0; i < 3; i++) {
            int what = i;
            asks(name + ", heightAt " + i, state, y -> y.heightAt(what));
            asks(name + ", peak " + i, state, y -> y.peak(what));
            asks(name + ", pair " + i, state, y -> y.pair(what * 3));
            asks(name + ", bestPhase " + i, state, y -> y.bestPhase(what * 200));
            asks(name + ", kindTold " + i, state, y -> y.kindTold(4, what, 3, 5));
            asks(name + ", roomTold " + i, state, y -> y.roomTold(what, 0));
        }
        asks(name + ", roomTold 4", state, y -> y.roomTold(4, 0));
        asks(name + ", clash", state, y -> y.clash());
        asks(name + ", outs", state, y -> y.outs());
    }

    private static void askingOf(String name, Supplier<BufferRoom> state, int b) {
        for (int w = 0; w < 5; w++) {
            int what = w;
            asks(name + ", bufferTold " + w, state, y -> y.bufferTold(b, what));
        }
        asks(name + ", roomTold", state, y -> y.roomTold(3, b));
        asks(name + ", taken", state, y -> y.taken(1, b, 6));
    }

    private static void asks(String call, Supplier<BufferRoom> state, ToIntFunction<BufferRoom> ask) {
        BufferRoom x = state.get();
        int want = ask.applyAsInt(x);
        for (int turn = 2; turn < 70; turn++) {
            CHECK.due(call + " for the " + turn + ". time", ask.applyAsInt(x), want);
        }
        Probe.refused(CHECK, call, state, ask, want);
    }

    // ---- calls that change what they tell of

    private static final String[] ALL_OF_A_PROGRAM = {
        "bytes", "text", "programs", "told", "program", "sizes", "lives", "order", "loads", "least", "plan",
        "place", "high", "lying", "image", "place of the image", "lying of the image", "high of the image",
        "rule of the image", "letters of the image", "sizes of the image",
    };

    private static void telling() {
        changes("feed", States::rich, x -> x.feed('=', 1), 6, "bytes", "text");
        changes("feed of eight", States::rich, x -> x.feed(';', 8), 13, "bytes", "text");
        changes("program", States::written, x -> x.program(), 1, ALL_OF_A_PROGRAM);
        changes("program of nothing", States::full, x -> x.program(), -102, "bytes", "text");
        changes("a fault", States::rich, x -> x.program(), -105, "bytes", "text");
        for (int l = 0; l < 4; l++) {
            int letter = l;
            changes("letter " + l, States::rested, x -> x.letter(letter, 99), new int[] {2, 3, 4, 6}[l],
                "letters", "sizes", "loads", "least");
        }
        changes("order", () -> ordered(0, 1, 2), x -> x.order(2), 3, "order", "lives", "loads");
        changes("the same order", States::rested, x -> x.order(2), 3);
        changes("a first order", () -> untold(), x -> x.order(2), 3, "told");
    }

    private static BufferRoom ordered(int... steps) {
        BufferRoom x = States.rested();
        Rooms.ints(x, 2, steps);
        return x;
    }

    /** THE ORDER isn't told, but is the one of SHEET 2. */
    private static BufferRoom untold() {
        BufferRoom x = ordered(0, 1, 2);
        x.program();
        Rooms.take(x, States.RICH);
        return x;
    }

    private static void finding() {
        changes("height", States::rich, x -> x.height(0), -2);
        changes("height of three", States::rested, x -> x.height(1), 21);
        changes("height of three", States::rich, x -> x.height(2), 21, "heights");
        changes("height of five", () -> fiveOf(States.rich()), x -> x.height(0), 30, "heights");
        changes("sendOut", States::rich, x -> x.sendOut(1, 34, 3), 0, "outs");
        changes("sendOut of none", States::rich, x -> x.sendOut(2, 20, 3), -6);
        changes("lay", States::rich, x -> x.lay(3, 99998), 5, "plan");
        changes("lay the last", States::rich, x -> x.lay(11, -1), 6, "plan");
        changes("lay as it lay", States::rich, x -> x.lay(1, 99999), 99999);
        changes("lays", States::rich, x -> x.lays(1, 2, 0, 1), 1, "plan");
        changes("lays of none", States::rich, x -> x.lays(1, 2, 0, 0), 0);
        changes("lays of bytes", States::rich, x -> x.lays(0, 0, 1, 2), 2, "plan");
        changes("lays of shorts", States::rich, x -> x.lays(3, 1, 0, 2), 0);
        changes("lays, and beyond", States::rich, x -> x.lays(2, 2, 0, 2), -12, "plan");
    }

    private static BufferRoom fiveOf(BufferRoom x) {
        for (int i = 0; i < 5; i++) {
            x.cell(0, i, i % 4);
        }
        return x;
    }

    private static void walking() {
        changes("rule", States::rich, x -> x.rule(0), 2, "rule");
        changes("rule as it is", States::rich, x -> x.rule(2), 2);
        changes("go", States::rich, x -> x.go(1), 3, "place", "lying", "high");
        changes("go, from the first on", States::rested, x -> x.go(3), 3, "place", "lying", "high");
        changes("compact", States::rich, x -> x.compact(), 26, "lying");
        changes("again", States::rich, x -> x.again(), 2, "place", "lying", "high");
        changes("again at first", States::rested, x -> x.again(), 0);
        changes("image", States::rich, x -> x.image(), 2, "image", "place of the image", "lying of the image",
            "high of the image", "rule of the image", "letters of the image", "sizes of the image");
        changes("back", States::rich, x -> x.back(), 1, "place", "lying", "high", "rule", "letters", "sizes",
            "loads", "least");
        changes("back twice", () -> backOnce(), x -> x.back(), 1);
    }

    private static BufferRoom backOnce() {
        BufferRoom x = States.rich();
        x.back();
        return x;
    }

    private static void hosting() {
        for (int s = 0; s < 4; s++) {
            int sheet = s;
            String name = "sheet " + s;
            for (int sort = -1; sort < 3; sort++) {
                int to = sort;
                changes(name + " of " + sort, States::rich, x -> x.sheet(sheet, to, 3), 1, "sort " + s, name);
            }
            int asItWas = s == 0 ? 0 : s == 3 ? 1 : 2;
            changes(name + " of none", States::rich, x -> x.sheet(sheet, asItWas, 0), 1, name);
            changes("cell of " + name, States::rich, x -> x.cell(sheet, 1, 77), 1, name);
            changes("copy in " + name, States::rich, x -> x.copy(sheet, 0, sheet, 1, 2), 2, name);
            changes("copy onto itself in " + name, States::rich, x -> x.copy(sheet, 0, sheet, 0, 3), 3);
            changes("copy of none in " + name, States::rich, x -> x.copy(sheet, 0, sheet, 1, 0), 0);
        }
        changes("copy", States::rich, x -> x.copy(1, 1, 2, 0, 2), 2, "sheet 2");
        changes("copy back", States::rich, x -> x.copy(2, 0, 1, 0, 3), 3, "sheet 1");
    }

    private static void withoutOrder() {
        changes("feed", States::round, x -> x.feed('c', 1), 2, "bytes", "text");
        changes("letter", States::round, x -> x.letter(0, 8), 3, "letters", "sizes");
        changes("lay", States::round, x -> x.lay(2, 8), -1, "plan");
        changes("lays", States::round, x -> x.lays(1, 2, 0, 1), 1, "plan");
        changes("rule", States::round, x -> x.rule(0), 1, "rule");
        changes("again", States::round, x -> x.again(), 0);
        changes("compact", States::round, x -> x.compact(), 0);
        changes("back", States::round, x -> x.back(), 0);
        changes("sheet", States::round, x -> x.sheet(3, 1, 2), 1, "sort 3", "sheet 3");
        changes("taken", States::round, x -> x.taken(0, 1, 0), 1);
        changes("stepTold", States::round, x -> x.stepTold(1, 6), 0);
        changes("bufferTold", States::round, x -> x.bufferTold(2, 1), -1);
    }

    /** The parts that are named may become others; all else stays, whatever was asked ahead. */
    private static void changes(String call, Supplier<BufferRoom> state, ToIntFunction<BufferRoom> done, int want,
            String... parts) {
        for (int spare = 0; spare < 4; spare += 3) {
            BufferRoom x = state.get();
            CHECK.due(call, done.applyAsInt(x), want);
            Probe.same(CHECK, call + " changes", x, state.get(), spare, parts);
        }
        askedAhead(call, state, x -> done.applyAsInt(x));
    }

    /** What is told behind the call does not hang on what was asked ahead of it. */
    private static void askedAhead(String call, Supplier<BufferRoom> state, Consumer<BufferRoom> done) {
        BufferRoom asked = state.get();
        answers(asked);
        done.accept(asked);
        BufferRoom twin = state.get();
        done.accept(twin);
        alike(call + ", asked ahead", answers(asked), answers(twin));
    }

    /** Fewer than 200 calls; those that find come last, as they change what was found. */
    private static List<Integer> answers(BufferRoom x) {
        List<Integer> told = new ArrayList<>();
        for (int k = -1; k < 5; k++) {
            told.add(x.orderTold(k));
            told.add(x.load(k));
            told.add(x.over(k));
            told.add(x.peak(k));
            told.add(x.leastPeak(k));
            told.add(x.roomTold(k, 1));
            told.add(x.pair(k));
            told.add(x.bestPhase(3 * k));
        }
        told.add(x.leastPeak(-2));
        for (int what = 0; what < 8; what++) {
            told.add(x.count(what));
            told.add(x.stepTold(0, what));
            told.add(x.stepTold(1, what));
            told.add(x.holder(3 * what));
        }
        for (int b = 0; b < 12; b += b == 3 ? 8 : 1) {
            for (int what = 0; what < 5; what++) {
                told.add(x.bufferTold(b, what));
            }
            told.add(x.roomTold(3, b));
            told.add(x.taken(1, b, 6));
        }
        for (int kind = 0; kind < 6; kind++) {
            told.add(x.taken(0, 0, kind));
        }
        told.add(x.clash());
        told.add(x.height(1));
        for (int i = 0; i < 4 && told.get(told.size() - 1) >= 0; i++) {
            told.add(x.heightAt(i));
        }
        told.add(x.sendOut(1, 31, 2));
        told.add(told.get(told.size() - 1) < 0 ? 0 : x.outs());
        return told;
    }

    // ---- the same call many times, and two rooms at once

    /** The same answers, how often it ever was called. */
    private static void often() {
        BufferRoom x = States.rested();
        for (int turn = 0; turn < 60; turn++) {
            CHECK.due("order", x.order(2), 3);
            CHECK.due("lay", x.lay(1, 5 + turn), turn == 0 ? 99999 : 4 + turn);
            CHECK.due("go", x.go(2), 2);
            CHECK.due("compact", x.compact(), 26);
            CHECK.due("compact again", x.compact(), 0);
            CHECK.due("again", x.again(), 2);
            CHECK.due("height", x.height(1), 21);
        }
        x = States.rested();
        for (int turn = 0; turn < 60; turn++) {
            CHECK.due("letter", x.letter(3, turn), turn == 0 ? 6 : turn - 1);
            CHECK.due("rule", x.rule(turn % 3), turn == 0 ? 2 : (turn - 1) % 3);
            CHECK.due("sendOut", x.sendOut(1, 99999, 1), 0);
            CHECK.due("sheet", x.sheet(3, 0, 4), 1);
            CHECK.due("cell", x.cell(3, 1, turn), 1);
            CHECK.due("lays", x.lays(3, 0, 0, 1), 1);
            CHECK.due("lay", x.lay(0, -1), turn);
        }
        x = States.rich();
        for (int turn = 0; turn < 60; turn++) {
            CHECK.due("image", x.image(), 2);
            CHECK.due("go", x.go(1), 3);
            CHECK.due("back", x.back(), 2);
            CHECK.due("copy", x.copy(1, 0, 2, 0, 3), 3);
        }
    }

    /** What was found last is told, also of one that was asked for ahead of it. */
    private static void foundAnew() {
        BufferRoom x = States.rested();
        x.cell(2, 0, 3);
        for (int turn = 0; turn < 3; turn++) {
            CHECK.due("b, c, a", x.height(1), 21);
            heights(x, 0, 13, 17);
            CHECK.due("d, a, c", x.height(2), 17);
            heights(x, 0, 0, 13);
            CHECK.due("c is OUT", x.sendOut(1, 31, 2), 4);
            CHECK.due("c", x.outs(), 4);
            CHECK.due("none is OUT", x.sendOut(1, 34, 2), 0);
            CHECK.due("none", x.outs(), 0);
        }
    }

    /** LOADS of THE IMAGE's LETTERS are others, so that two runs hold least by another number of ticks. */
    private static void askedAheadOfBack() {
        BufferRoom x = Rooms.with("a=1A;b=1B;c=1;0a>c3;0>b5;");
        x.letter(0, 99);
        x.letter(1, 0);
        x.image();
        x.letter(0, 0);
        x.letter(1, 99);
        CHECK.due("best by now", x.bestPhase(9), 8);
        CHECK.due("holds then", x.pair(8), 99);
        CHECK.due("back", x.back(), 0);
        CHECK.due("best as it was", x.bestPhase(9), 3);
        CHECK.due("holds then", x.pair(3), 100);
    }

    private static void heights(BufferRoom x, int... due) {
        for (int i = 0; i < due.length; i++) {
            CHECK.due("heightAt " + i, x.heightAt(i), due[i]);
        }
        CHECK.due("none more", x.heightAt(due.length), -5);
    }

    /** Of two rooms the one does not hear what the other one is told. */
    private static void apart() {
        List<Supplier<BufferRoom>> states = List.of(States::rich, States::gone, States::round, States::rested);
        for (Supplier<BufferRoom> state : states) {
            for (Supplier<BufferRoom> otherState : states) {
                List<Integer> alone = answers(state.get());
                List<Integer> otherAlone = answers(otherState.get());
                Map<String, List<Integer>> kept = Probe.parts(state.get(), 3);
                BufferRoom x = state.get();
                BufferRoom y = state.get();
                BufferRoom other = otherState.get();
                alike("first", answers(x), alone);
                alike("of another one", answers(other), otherAlone);
                alike("behind another one", answers(x), alone);
                Probe.parts(otherState.get(), 3);
                CHECK.due("all that is kept, behind another one", Probe.parts(y, 3).equals(kept) ? 1 : 0, 1);
            }
        }
        Probe.same(CHECK, "fresh, with others ahead", States.fresh(), new BufferRoom(), 3);
    }

    private static void alike(String name, List<Integer> got, List<Integer> want) {
        CHECK.due(name + ": answers", got.size(), want.size());
        for (int i = 0; i < got.size() && i < want.size(); i++) {
            CHECK.due(name + ": answer " + i, got.get(i), want.get(i));
        }
    }
}

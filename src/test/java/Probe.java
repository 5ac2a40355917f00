import java.util.ArrayList;
import java.util.LinkedHashMap;
import java.util.LinkedHashSet;
import java.util.List;
import java.util.Map;
import java.util.Set;
import java.util.function.Supplier;
import java.util.function.ToIntFunction;

/**
 * Asks for all that a room keeps, part by part, but once: the last questions change what they ask
 * for. One SHEET is spare: it is written to, so that just its sort is told.
 */
final class Probe {
    private static final int BUFFERS = 12;

    private final BufferRoom x;
    private final int spare;
    private final Map<String, List<Integer>> parts = new LinkedHashMap<>();
    private List<Integer> part;
    private final List<Integer> there = new ArrayList<>();

    private Probe(BufferRoom x, int spare) {
        this.x = x;
        this.spare = spare;
    }

    /** Fewer than 300 calls, for the longest PROGRAM, too. */
    static Map<String, List<Integer>> parts(BufferRoom x, int spare) {
        Probe probe = new Probe(x, spare);
        probe.counts();
        probe.program();
        probe.order();
        probe.found();
        probe.floor("");
        probe.plan();
        probe.image();
        probe.text();
        probe.sheets();
        return probe.parts;
    }

    /** Both rooms keep the same, but for the parts that are named. */
    static void same(Check check, String call, BufferRoom x, BufferRoom twin, int spare, String... but) {
        Map<String, List<Integer>> told = parts(x, spare);
        Map<String, List<Integer>> due = parts(twin, spare);
        Set<String> names = new LinkedHashSet<>(due.keySet());
        names.addAll(told.keySet());
        names.removeAll(Set.of(but));
        for (String name : names) {
            check.dueAll(call + ": " + name, row(told, name), row(due, name));
        }
    }

    /** A call that is answered so, and all stays as in a room that does not get it. */
    static void refused(Check check, String call, Supplier<BufferRoom> state, ToIntFunction<BufferRoom> refusal,
            int want) {
        for (int spare = 0; spare < 4; spare += 3) {
            BufferRoom x = state.get();
            check.due(call, refusal.applyAsInt(x), want);
            same(check, call + " changes", x, state.get(), spare);
        }
    }

    private static int[] row(Map<String, List<Integer>> parts, String name) {
        return parts.getOrDefault(name, List.of()).stream().mapToInt(n -> n).toArray();
    }

    private void begin(String name) {
        part = new ArrayList<>();
        parts.put(name, part);
    }

    private int keep(int answer) {
        part.add(answer);
        return answer;
    }

    private void counts() {
        begin("bytes");
        keep(x.count(1));
        begin("programs");
        keep(x.count(2));
        begin("told");
        keep(x.count(3));
        letters("");
    }

    private void letters(String when) {
        begin("letters" + when);
        for (int l = 4; l < 8; l++) {
            keep(x.count(l));
        }
    }

    private void program() {
        begin("program");
        int steps = keep(x.count(0));
        for (int s = 0; s < steps; s++) {
            keep(x.stepTold(s, 0));
            keep(x.stepTold(s, 1));
            keep(x.stepTold(s, 2));
            keep(x.stepTold(s, 6));
        }
        for (int b = 0; b < BUFFERS; b++) {
            if (keep(x.bufferTold(b, 2)) >= 0) {
                there.add(b);
            }
        }
        begin("sizes");
        for (int b : there) {
            keep(x.bufferTold(b, 0));
        }
        for (int s = 0; s < steps; s++) {
            keep(x.stepTold(s, 4));
        }
        begin("lives");
        for (int b : there) {
            keep(x.bufferTold(b, 3));
            keep(x.bufferTold(b, 4));
        }
    }

    private void order() {
        begin("order");
        for (int k = 0; keep(x.orderTold(k)) >= 0; k++) {
            keep(k);
        }
        begin("loads");
        for (int k = 0; keep(x.load(k)) >= 0; k++) {
            keep(x.over(k));
        }
        begin("least");
        keep(x.leastPeak(-1));
    }

    private void found() {
        begin("heights");
        for (int i = 0; keep(x.heightAt(i)) >= 0; i++) {
            keep(i);
        }
        begin("outs");
        keep(x.outs());
    }

    private void floor(String when) {
        begin("place" + when);
        keep(x.roomTold(0, 0));
        begin("high" + when);
        keep(x.roomTold(1, 0));
        begin("rule" + when);
        keep(x.roomTold(4, 0));
        begin("lying" + when);
        for (int b = 0; b < BUFFERS; b++) {
            keep(x.roomTold(3, b));
        }
    }

    private void plan() {
        begin("plan");
        for (int b = 0; b < BUFFERS; b++) {
            keep(x.lay(b, -1));
        }
    }

    private void image() {
        begin("image");
        if (keep(x.back()) >= 0) {
            floor(" of the image");
            letters(" of the image");
            begin("sizes of the image");
            for (int b : there) {
                keep(x.bufferTold(b, 0));
            }
        }
    }

    private void text() {
        begin("text");
        keep(x.program());
        keep(x.count(0));
        keep(x.bufferTold(0, 2));
    }

    private void sheets() {
        Rooms.take(x, "a=1;");
        int[] sorts = new int[4];
        for (int s = 0; s < 4; s++) {
            begin("sort " + s);
            sorts[s] = sortOf(s);
        }
        for (int s = 0; s < 4; s++) {
            if (sorts[s] >= 0 && s != spare) {
                begin("sheet " + s);
                numbers(s, sorts[s]);
            }
        }
    }

    private int sortOf(int s) {
        int found = -1;
        for (int sort = 0; sort < 3; sort++) {
            if (keep(x.lays(s, sort, 0, 0)) == 0) {
                found = sort;
            }
        }
        return found;
    }

    /** The first ones, each as where the BUFFER 0 lies by a SHEET of two. */
    private void numbers(int s, int sort) {
        x.sheet(spare, sort, 2);
        for (int i = 0; i < 5 && keep(x.copy(s, i, spare, 1, 1)) == 1; i++) {
            keep(x.lays(spare, sort, 0, 1));
            keep(x.lay(0, -1));
        }
    }
}

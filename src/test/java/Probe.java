import java.util.ArrayList;
import java.util.List;
import java.util.function.Supplier;
import java.util.function.ToIntFunction;

/** Asks for all that a room keeps, but once: the last questions change what they ask for. */
final class Probe {
    private final BufferRoom x;
    private final List<Integer> told = new ArrayList<>();

    private Probe(BufferRoom x) {
        this.x = x;
    }

    /** A call that is refused so; the room answers from then on as one that did not get the call. */
    static void refused(Check check, String call, Supplier<BufferRoom> state, ToIntFunction<BufferRoom> refusal,
            int want) {
        BufferRoom x = state.get();
        check.due(call, refusal.applyAsInt(x), want);
        List<Integer> after = all(x);
        List<Integer> due = all(state.get());
        check.due(call + " changes nothing: answers", after.size(), due.size());
        for (int i = 0; i < due.size() && i < after.size(); i++) {
            check.due(call + " changes nothing: answer " + i, after.get(i), due.get(i));
        }
    }

    /** Some 250 answers, the same for two rooms that keep the same; of SHEET 3 just the sort. */
    static List<Integer> all(BufferRoom x) {
        Probe probe = new Probe(x);
        probe.program();
        probe.floor();
        probe.plan();
        if (probe.keep(x.back()) >= 0) {
            probe.floor();
            for (int l = 4; l < 8; l++) {
                probe.keep(x.count(l));
            }
        }
        probe.keep(x.program());
        Rooms.take(x, "a=1;");
        for (int sort = 0; sort < 3; sort++) {
            probe.keep(x.lays(3, sort, 0, 0));
        }
        for (int s = 0; s < 3; s++) {
            probe.sheet(s);
        }
        return probe.told;
    }

    private int keep(int answer) {
        told.add(answer);
        return answer;
    }

    private void program() {
        for (int what = 0; what < 8; what++) {
            keep(x.count(what));
        }
        keep(x.leastPeak(-1));
        for (int k = 0; k < x.count(0) && keep(x.orderTold(k)) >= 0; k++) {
            keep(x.load(k));
            keep(x.over(k));
            keep(x.stepTold(k, 2));
        }
        for (int b = 0; b < 12; b++) {
            if (keep(x.bufferTold(b, 0)) >= 0) {
                keep(x.bufferTold(b, 1));
                keep(x.bufferTold(b, 2));
                keep(x.bufferTold(b, 4));
            }
        }
        for (int i = 0; keep(x.heightAt(i)) >= 0; i++) {
            keep(i);
        }
        keep(x.outs());
    }

    private void floor() {
        keep(x.roomTold(0, 0));
        keep(x.roomTold(1, 0));
        keep(x.roomTold(4, 0));
        for (int b = 0; b < 5; b++) {
            keep(x.roomTold(3, b));
        }
    }

    private void plan() {
        for (int b = 0; b < 12; b++) {
            keep(x.lay(b, -1));
        }
    }

    /** The first numbers of a SHEET, each as where the BUFFER 0 lies by a SHEET of two. */
    private void sheet(int s) {
        for (int sort = 0; sort < 3; sort++) {
            if (keep(x.lays(s, sort, 0, 0)) == 0) {
                x.sheet(3, sort, 2);
                for (int i = 0; i < 8 && keep(x.copy(s, i, 3, 1, 1)) == 1; i++) {
                    keep(x.lays(3, sort, 0, 1));
                    keep(x.lay(0, -1));
                }
                x.sheet(3, -1, 0);
            }
        }
    }
}

/** Any calls, one after the other, on a room and on a slow one: the same answers. */
final class SessionTest {
    private static final Check CHECK = new Check("SessionTest");
    private static final int RUNS = 2500, CALLS = 400, METHODS = 35;

    private static final int[] EDGES = {
        Integer.MIN_VALUE, Integer.MAX_VALUE, -1, -2, 99999, 100000, 400, 401, 40, 41, 99, 100, 999, 1000,
    };

    public static void main(String[] args) {
        for (int run = 1; run <= RUNS; run++) {
            session(run, new Dice(run + 500000));
        }
        CHECK.close();
    }

    private static void session(int run, Dice dice) {
        BufferRoom x = new BufferRoom();
        SlowRoom slow = new SlowRoom();
        StringBuilder calls = new StringBuilder("run " + run + ":");
        int left = CALLS;
        while (left > 0) {
            if (dice.once(40) || left == CALLS) {
                left -= text(x, slow, ModelTest.text(dice), calls);
            } else if (dice.once(12)) {
                left -= sheet(x, slow, dice, calls);
            } else {
                int method = dice.once(3) ? 20 : dice.below(METHODS);
                int[] a = {number(dice), number(dice), number(dice), number(dice), number(dice)};
                boolean isQuiet = method == 1 || method == 0 || method == 24 && !dice.once(3);
                left -= isQuiet && !dice.once(6) ? 0 : call(x, slow, method, a, calls);
            }
        }
    }

    private static int call(BufferRoom x, SlowRoom slow, int method, int[] a, StringBuilder calls) {
        if (slow.isOpen(method, a)) {
            return 0;
        }
        long w = 0x6161616161616161L + a[4];
        int want = slow.call(method, a, w);
        int got = AnyCallTest.call(x, method, a, w);
        calls.append(' ').append(method).append(java.util.Arrays.toString(a));
        if (got != want) {
            CHECK.due(calls.toString(), got, want);
        } else {
            CHECK.due("a call", got, want);
        }
        return 1;
    }

    private static int text(BufferRoom x, SlowRoom slow, String text, StringBuilder calls) {
        for (int i = 0; i < text.length(); i += 8) {
            int n = Math.min(8, text.length() - i);
            long w = 0;
            for (int k = 0; k < n; k++) {
                w = w << 8 | text.charAt(i + k);
            }
            int[] a = {n};
            CHECK.due("feed", x.feed(w, n), slow.call(0, a, w));
        }
        calls.append(' ').append(text);
        return text.length() / 8 + 1 + call(x, slow, 1, new int[5], calls);
    }

    /** A SHEET of so many small numbers that it may be an ORDER, or BUFFERS, or a plan. */
    private static int sheet(BufferRoom x, SlowRoom slow, Dice dice, StringBuilder calls) {
        int s = dice.below(4);
        int n = dice.below(dice.once(3) ? 9 : 5);
        call(x, slow, 29, new int[] {s, dice.below(3), n, 0, 0}, calls);
        int from = dice.below(5);
        int each = dice.below(2) * 2 + 1;
        for (int i = 0; i < n; i++) {
            int v = dice.once(3) ? dice.below(9) : (from + each * i) % Math.max(1, n);
            call(x, slow, 30, new int[] {s, i, v, 0, 0}, calls);
        }
        int[] methods = {3, 11, 15, 32};
        int method = methods[dice.below(4)];
        int[] a = {s, method == 32 ? dice.below(3) : dice.below(60), 1 + dice.below(3), dice.below(4), 0};
        return n + 1 + call(x, slow, method, a, calls);
    }

    private static int number(Dice dice) {
        if (dice.once(20)) {
            return EDGES[dice.below(EDGES.length)];
        }
        return dice.below(dice.once(3) ? 14 : 4) - (dice.once(9) ? 1 : 0);
    }
}

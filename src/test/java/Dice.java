/** Numbers that look like thrown ones, the same at each run. */
final class Dice {
    private long state;

    Dice(long seed) {
        state = seed * 0x9E3779B97F4A7C15L + 1;
    }

    /** 0 .. n - 1. */
    int below(int n) {
        return (int) Math.floorMod(wide() >>> 17, (long) n);
    }

    long wide() {
        state ^= state << 13;
        state ^= state >>> 7;
        state ^= state << 17;
        return state * 0x2545F4914F6CDD1DL;
    }

    boolean once(int in) {
        return below(in) == 0;
    }
}

/** Rooms in which each thing that can be kept is kept, so that a call that changes it is seen. */
final class States {
    static final String TEXT = "a=2A;b=3;c=1B+4;d=2;e=5;0a>b3;2b>c4;1a>d9;4cd>e2;e!;";
    static final String RICH = "a=2A;b=3B+4;c=1C;d=2D+1;l=5;1c>d9;4a>b3;2bd>l2;l!;";
    static final String ROUND = "a=1A;b=2;c=3;0b>a1;0a>b1;";

    private States() {
    }

    /** THE ORDER is told, OUTS (2) and a HEIGHT were found, a plan is there, two bytes are on THE TAPE. */
    static BufferRoom ready() {
        BufferRoom x = Rooms.with("b=9;c=1;b!;0>c1;");
        Rooms.sendOut(x, 1, 5, 1);
        x.sheet(3, -1, 0);
        Rooms.take(x, TEXT);
        x.letter(0, 3);
        x.letter(1, 2);
        sheets(x);
        x.order(2);
        x.height(1);
        x.lay(0, 4);
        x.lay(2, 99999);
        x.rule(1);
        Rooms.feed(x, "a=");
        return x;
    }

    /** As ready(), but two STEPS went and THE IMAGE is of the first one. */
    static BufferRoom gone() {
        BufferRoom x = ready();
        x.go(1);
        x.image();
        x.rule(2);
        x.go(1);
        return x;
    }

    /** As gone(), but all STEPS went, and THE TAPE is full. */
    static BufferRoom full() {
        BufferRoom x = gone();
        x.go(2);
        for (int i = 0; i < 29; i++) {
            x.feed(0x6262626262626262L, 8);
        }
        x.feed(0x626262626262L, 6);
        return x;
    }

    /** There is no ORDER, but an IMAGE, a plan, and what was found in a PROGRAM ahead. */
    static BufferRoom round() {
        BufferRoom x = ready();
        x.feed('1', 1);
        x.feed(';', 1);
        x.program();
        Rooms.take(x, ROUND);
        x.letter(2, 7);
        x.image();
        x.lay(1, 8);
        Rooms.feed(x, "b");
        return x;
    }

    /**
     * Each thing is kept, and none is as it would be by itself: another ORDER, LETTERS, rule and HIGH
     * than at first, than now and than in THE IMAGE; there is a HOLE below what lies.
     */
    static BufferRoom rich() {
        BufferRoom x = rested();
        x.go(2);
        return x;
    }

    /** As rich(), but no STEP went. */
    static BufferRoom rested() {
        BufferRoom x = Rooms.with("c=9;b=1;c!;0>b1;");
        Rooms.sendOut(x, 1, 5, 2);
        Rooms.take(x, RICH);
        letters(x, 3, 2, 2, 5);
        Rooms.ints(x, 2, 1, 0, 2);
        x.order(2);
        x.rule(1);
        x.go(1);
        x.image();
        x.again();
        letters(x, 2, 3, 4, 6);
        x.rule(2);
        plan(x, 4, 99999, 8, 5, 6);
        Rooms.ints(x, 1, 1, 2, 0);
        x.height(1);
        x.sheet(0, 0, 5);
        x.sheet(3, 1, 4);
        for (int i = 0; i < 4; i++) {
            x.cell(0, i, 4 - i);
            x.cell(3, i, 500 + i);
        }
        Rooms.feed(x, "a=7;b");
        return x;
    }

    /** As rich(), but THE TAPE is a PROGRAM. */
    static BufferRoom written() {
        BufferRoom x = rich();
        x.program();
        Rooms.feed(x, "c=2;0>c9;");
        return x;
    }

    private static void letters(BufferRoom x, int... worth) {
        for (int l = 0; l < worth.length; l++) {
            x.letter(l, worth[l]);
        }
    }

    /** THE PLAN of a .. d, l. */
    private static void plan(BufferRoom x, int... at) {
        for (int b = 0; b < 4; b++) {
            x.lay(b, at[b]);
        }
        x.lay(11, at[4]);
    }

    static BufferRoom fresh() {
        return new BufferRoom();
    }

    /** 0 of bytes, 1 of ints that are BUFFERS, 2 of ints that are an ORDER; 3 is missing. */
    private static void sheets(BufferRoom x) {
        x.sheet(0, 0, 3);
        x.cell(0, 0, 1);
        x.cell(0, 1, 2);
        x.cell(0, 2, 3);
        Rooms.ints(x, 1, 1, 0, 2);
        Rooms.ints(x, 2, 2, 0, 1, 3);
    }
}

/** The sentences of the document's Terms that name an edge: at the edge, and one beyond it. */
final class TermsTest {
    private static final Check CHECK = new Check("TermsTest");
    private static final String DIGITS = "0123456789";
    private static final String HEADS = "abcdefghijkl012345";
    private static final String TEN_STEPS = "a=1;b=1;c=1;d=1;e=1;f=1;g=1;h=1;i=1;j=1;k=1;"
        + "0>a1;0>b1;0>c1;0>d1;0>e1;0>f1;0>g1;0>h1;0>i1;0>j1;";

    public static void main(String[] args) {
        usedFor512Calls();
        tapeOf240Bytes();
        eachByteOfSizes();
        eachByteOfSteps();
        endsTooEarly();
        numbersAndLetters();
        kinds();
        takenProgram();
        CHECK.close();
    }

    private static void due(String call, long got, long want) {
        CHECK.due(call, got, want);
    }

    // ---- what it is

    private static void usedFor512Calls() {
        // some 60 calls were made by gone(), and 400 more are
        BufferRoom x = States.gone();
        for (int call = 0; call < 200; call++) {
            due("a LETTER", x.count(4), 3);
            due("image", x.image(), 2);
        }
        due("again", x.again(), 2);
        due("all go", x.go(4), 4);
        due("back", x.back(), 2);
        x = new BufferRoom();
        for (int call = 1; call < 512; call++) {
            due("program", x.program(), 0);
        }
        due("the 512th call", x.count(2), 511);
    }

    // ---- 1: the tape, and what stands on it

    private static void tapeOf240Bytes() {
        for (int bytes = 238; bytes <= 240; bytes++) {
            BufferRoom x = new BufferRoom();
            Rooms.feed(x, "a".repeat(bytes));
            due("bytes", x.count(1), bytes);
            for (int n = 1; n <= 3; n++) {
                if (bytes + n > 240) {
                    due(n + " more than " + bytes, x.feed('a', n), -4);
                }
            }
            due("as many as they were", x.count(1), bytes);
        }
        // 60 STATEMENTS of 4 bytes can't be: the 13th is of a BUFFER that is there
        StringBuilder text = new StringBuilder();
        for (char b = 'a'; b <= 'l'; b++) {
            text.append(b).append("=1;");
        }
        due("twelve", Rooms.take(new BufferRoom(), text.toString()), 0);
        due("thirteen", Rooms.take(new BufferRoom(), text + "a=1;"), -100 - 49);
        due("thirteen", Rooms.take(new BufferRoom(), text + "m=1;"), -100 - 48);
    }

    /** Of all 256 bytes just those go on behind what stands ahead, whether a STATEMENT ends or not. */
    private static void goesOn(String ahead, String signs) {
        for (int c = 0; c < 256; c++) {
            BufferRoom x = new BufferRoom();
            Rooms.feed(x, ahead);
            x.feed(c, 1);
            int answer = x.program();
            String call = "'" + ahead + "' and byte " + c;
            if (signs.indexOf(c) < 0) {
                due(call, answer, -100 - ahead.length());
            } else if (c == ';') {
                due(call, answer >= 0 ? 1 : answer, 1);
            } else {
                due(call, answer, -101 - ahead.length());
            }
        }
    }

    private static void eachByteOfSizes() {
        goesOn("", HEADS);
        goesOn("a", "=");
        goesOn("l", "=");
        goesOn("a=", DIGITS);
        goesOn("a=1", DIGITS + "ABCD+;");
        goesOn("a=00", "ABCD+;");
        goesOn("a=99", "ABCD+;");
        goesOn("a=1A", "+;");
        goesOn("a=12D", "+;");
        goesOn("a=1+", DIGITS);
        goesOn("a=1A+2", DIGITS + "ABCD+;");
        goesOn("a=1+2+3", DIGITS + "ABCD+;");
        goesOn("a=1+2+3+", DIGITS);
        goesOn("a=1+2+3+4", DIGITS + "ABCD+;");
        goesOn("a=1+2+3+45", "ABCD+;");
        goesOn("a=1+2+3+4A", "+;");
        // of a 5th TERM its first digit
        goesOn("a=1+2+3+4+", "");
        goesOn("a=1A+2B+3C+4D+", "");
        goesOn("a=1;", HEADS);
        goesOn("a=1;a", "!");
        goesOn("a=1;b", "=");
        goesOn("a=1;a!", ";");
        goesOn("a=1;a!;", "bcdefghijkl012345");
        goesOn("a=1;l=1;l!;", "abcdefghijk012345");
        goesOn("a=1;l=1;l!;a!;", "bcdefghijk012345");
    }

    private static void eachByteOfSteps() {
        for (char kind = '0'; kind <= '5'; kind++) {
            // also if no BUFFER is there that could be WRITTEN
            goesOn("" + kind, ">");
            goesOn(kind + ">", "");
            goesOn("a=1;" + kind, "a>");
        }
        goesOn("a=1;l=1;0", "al>");
        goesOn("a=1;0a", ">");
        goesOn("a=1;0a>", "");
        goesOn("a=1;0>", "a");
        goesOn("a=1;b=1;c=1;d=1;e=1;f=1;0abc", "def>");
        // of a 5th BUFFER its letter
        goesOn("a=1;b=1;c=1;d=1;e=1;f=1;0abcd", ">");
        goesOn("a=1;b=1;c=1;d=1;e=1;f=1;0abcd>", "ef");
        goesOn("a=1;b=1;c=1;0a>b1;0>", "ac");
        goesOn("a=1;b=1;c=1;0a>b1;0b>", "ac");
        goesOn("a=1;b=1;c=1;0a>b1;0ac", "b>");
        goesOn("a=1;0>a1;", HEADS);
        goesOn("a=1;0>a1;0", "a>");
        goesOn("a=1;0>a1;0>", "");
        goesOn("a=1;0>a", DIGITS);
        goesOn("a=1;0>a1", DIGITS + ";");
        goesOn("a=1;0>a00", ";");
        goesOn("a=1;0>a99", ";");
        goesOn("a=1;a!;0>", "a");
        // nine and ten STEPS; of an 11th its digit
        String nine = TEN_STEPS.substring(0, TEN_STEPS.length() - 5);
        goesOn(nine, HEADS);
        goesOn(TEN_STEPS, "abcdefghijkl");
        goesOn(TEN_STEPS + "k!;", "abcdefghijl");
    }

    private static void endsTooEarly() {
        String text = "a=12A+3+4+5D;b=1;a!;3ab>";
        for (int n = 0; n <= text.length(); n++) {
            boolean ended = n == 0 || text.charAt(n - 1) == ';';
            due(n + " bytes", Rooms.take(new BufferRoom(), text.substring(0, n)), ended ? 0 : -100 - n);
        }
        String step = "c=1;b=1;3b>c10;";
        for (int n = 8; n <= step.length(); n++) {
            int steps = n == step.length() ? 1 : n == 8 ? 0 : -100 - n;
            due(n + " bytes", Rooms.take(new BufferRoom(), step.substring(0, n)), steps);
        }
    }

    private static int size(String size, int worth) {
        BufferRoom x = Rooms.with("l=" + size + ";");
        for (int l = 0; l < 4; l++) {
            x.letter(l, worth + l);
        }
        return x.bufferTold(11, 0);
    }

    private static void numbersAndLetters() {
        due("1 digit", size("0", 9), 0);
        due("1 digit", size("9", 9), 9);
        due("2 digits", size("00", 9), 0);
        due("2 digits", size("09", 9), 9);
        due("2 digits", size("10", 9), 10);
        due("2 digits", size("99", 9), 99);
        due("A", size("2A", 9), 18);
        due("B", size("2B", 9), 20);
        due("C", size("2C", 9), 22);
        due("D", size("2D", 9), 24);
        due("worth 0", size("99A", 0), 0);
        due("worth 0, and 1, 2, 3", size("99A+1B+1C+1D", 0), 6);
        due("the greatest", size("99A+99B+99C+99D", 96), 99 * (96 + 97 + 98 + 99));
        due("a LETTER twice, and a NUMBER alone", size("1A+2A+3+4A", 10), 73);
        BufferRoom x = Rooms.with("l=99A+99A+99A+99A;k=1;0>l1;0l>k1;");
        due("1 at first", x.bufferTold(11, 0), 396);
        x.letter(0, 99);
        due("99", x.bufferTold(11, 0), 4 * 9801);
        due("its load", x.load(0), 39204);
        x.letter(0, 0);
        due("0", x.bufferTold(11, 0), 0);
        due("its load", x.load(0), 0);
    }

    /** A STEP of a KIND that READS two BUFFERS, all together, and WRITES one. */
    private static void kind(int kind, int time, int read, int alsoRead, int written, int ticks, int scratch) {
        String text = "a=" + read + ";b=" + alsoRead + ";c=" + written + ";" + kind + "ab>c" + time + ";";
        BufferRoom x = Rooms.with(text);
        due(text + " TICKS", x.stepTold(0, 1), ticks);
        due(text + " SCRATCH", x.stepTold(0, 4), scratch);
        due(text + " TICKS of all", x.peak(2), ticks);
        due(text + " TICKS of the KIND", x.kindTold(kind, 0, time, 0), ticks);
        due(text + " SCRATCH of the KIND", x.kindTold(kind, 1, read + alsoRead, written), scratch);
    }

    private static void kinds() {
        kind(0, 0, 5, 6, 7, 0, 0);
        kind(0, 99, 5, 6, 7, 99, 0);
        kind(1, 0, 5, 6, 7, 0, 0);
        kind(1, 1, 5, 6, 7, 1, 0);
        kind(1, 2, 5, 6, 7, 1, 0);
        kind(1, 3, 5, 6, 7, 2, 0);
        kind(1, 98, 5, 6, 7, 49, 0);
        kind(1, 99, 5, 6, 7, 50, 0);
        kind(2, 0, 5, 6, 7, 0, 7);
        kind(2, 99, 5, 6, 0, 99, 0);
        kind(3, 0, 5, 6, 10, 2, 5);
        kind(3, 1, 5, 6, 11, 3, 5);
        kind(3, 2, 5, 6, 12, 3, 6);
        kind(3, 99, 5, 6, 13, 52, 6);
        kind(3, 98, 0, 0, 1, 51, 0);
        kind(3, 98, 1, 1, 0, 51, 1);
        kind(4, 0, 5, 6, 7, 0, 18);
        kind(4, 99, 0, 0, 7, 297, 7);
        kind(4, 1, 1, 0, 0, 3, 1);
        kind(5, 0, 5, 6, 7, 0, 0);
        kind(5, 99, 5, 6, 8, 99, 1);
        kind(5, 1, 5, 6, 15, 1, 1);
        kind(5, 1, 5, 6, 16, 1, 2);
        int[] over = {-1, -1, 1, -1, 1, 1};
        for (int kind = 0; kind < 6; kind++) {
            BufferRoom x = Rooms.with("a=5;b=6;c=1;" + kind + "ab>c1;");
            due("OVER of " + kind, x.over(0), over[kind]);
            due("OVER of " + kind, x.stepTold(0, 5), over[kind] < 0 ? 0 : 1);
        }
    }

    private static void takenProgram() {
        BufferRoom x = States.full();
        x.again();
        x.go(3);
        due("a fault: the tape was full", x.program(), -102);
        due("an ORDER is told", x.count(3), 1);
        due("it lies", x.roomTold(3, 3), 6);
        due("a PROGRAM", Rooms.take(x, States.TEXT), 4);
        due("no ORDER is told", x.count(3), 0);
        CHECK.dueAll("so it is the least that is READY", Rooms.orderTold(x), 0, 1, 2, 3);
        for (int b = 0; b < 5; b++) {
            due("no plan", x.lay(b, -1), -1);
            due("nothing is laid", x.roomTold(3, b), -1);
        }
        due("the place", x.roomTold(0, 0), 0);
        due("high", x.roomTold(1, 0), 0);
        due("the upper end", x.roomTold(2, 0), 0);
        due("no IMAGE", x.back(), -3);
        due("LETTERS stay", x.count(4), 3);
        due("LETTERS stay", x.count(5), 2);
        due("the rule stays", x.roomTold(4, 0), 2);
        due("what was found last stays", x.heightAt(1), 3);
        due("what was found last stays", x.heightAt(3), -5);
        due("what was found last stays", x.outs(), 2);
        for (String b : new String[] {"a", "f", "l"}) {
            int number = b.charAt(0) - 'a';
            due("ahead it was ALIVE", Rooms.take(x, "k=1;j=1;" + b + "=3;0>k1;0>" + b + "1;0" + b + ">j1;"), 3);
            due("FROM 1", x.bufferTold(number, 3), 1);
            due("TILL 2", x.bufferTold(number, 4), 2);
            due("now it is not", Rooms.take(x, "k=1;" + b + "=3;0>k1;"), 1);
            due("FROM 0", x.bufferTold(number, 3), 0);
            due("never", x.bufferTold(number, 4), -1);
        }
    }
}

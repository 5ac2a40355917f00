/** Promises 1 to 4, 29, 30: a new object, the tape, the program, letters, kinds, counts. */
final class ReadingTest {
    private static final Check CHECK = new Check("ReadingTest");

    public static void main(String[] args) {
        newObject();
        feeding();
        programs();
        programsBehind();
        faults();
        mostOfAll();
        letters();
        kinds();
        counts();
        CHECK.close();
    }

    private static void due(String call, long got, long want) {
        CHECK.due(call, got, want);
    }

    private static void newObject() {
        BufferRoom x = new BufferRoom();
        for (int what = 0; what < 4; what++) {
            due("new: count " + what, x.count(what), 0);
        }
        for (int l = 0; l < 4; l++) {
            due("new: letter " + l, x.count(4 + l), 1);
        }
        due("new: rule", x.roomTold(4, 0), 0);
        due("new: place", x.roomTold(0, 0), 0);
        due("new: high", x.roomTold(1, 0), 0);
        due("new: a buffer", x.bufferTold(0, 0), -5);
        due("new: a step", x.stepTold(0, 0), -5);
        due("new: an order", x.orderTold(0), -5);
        due("new: outs", x.outs(), 0);
        due("new: heightAt", x.heightAt(0), -5);
        due("new: heaps", x.leastPeak(-2), 1);
        due("new: image", x.back(), -3);
        for (int s = 0; s < 4; s++) {
            due("new: sheet " + s, x.cell(s, 0, 0), -11);
        }
        due("NONE", BufferRoom.NONE, -1);
        due("BAD", BufferRoom.BAD, -2);
        due("STATE", BufferRoom.STATE, -3);
        due("FULL", BufferRoom.FULL, -4);
        due("NO", BufferRoom.NO, -4611686018427387904L);
    }

    private static void feeding() {
        BufferRoom x = new BufferRoom();
        due("n 0", x.feed('a', 0), -2);
        due("n 9", x.feed('a', 9), -2);
        due("n -1", x.feed('a', -1), -2);
        due("n least", x.feed('a', Integer.MIN_VALUE), -2);
        // bytes above the n lowest do not come
        due("two of three", x.feed(0x7A613DL, 2), 2);
        due("two more", x.feed(0x353BL, 2), 4);
        due("a=5;", x.program(), 0);
        due("its size", x.bufferTold(0, 0), 5);
        due("eight bytes, the highest bit", x.feed(-1L, 8), 8);
        due("no byte as told", x.program(), -100);
        for (int i = 1; i <= 29; i++) {
            due("feed", x.feed(0, 8), 8 * i);
        }
        due("feed 7", x.feed(0, 7), 239);
        due("feed 2: full", x.feed(0, 2), -4);
        due("feed 9: bad ahead of full", x.feed(0, 9), -2);
        due("full changes nothing", x.count(1), 239);
        due("feed 1", x.feed(0, 1), 240);
        due("feed 1: full", x.feed(0, 1), -4);
        due("a fault", x.program(), -100);
        due("empty by a fault", x.count(1), 0);
    }

    private static void programs() {
        BufferRoom x = Rooms.with("a=10;b=6A;c=4+2B;d=8;e=5;0a>b3;2b>c4;1a>d9;4cd>e2;e!;");
        due("steps", x.count(0), 4);
        due("the tape is empty", x.count(1), 0);
        due("a fault", Rooms.take(x, "a=1;b"), -105);
        due("leaves the program", x.count(0), 4);
        due("leaves its buffers", x.bufferTold(3, 0), 8);
        due("isn't taken", x.count(2), 1);
        due("nothing", x.program(), 0);
        due("is one", x.count(2), 2);
        due("without buffers", x.bufferTold(0, 0), -5);
        due("reads come before a writer is told", Rooms.take(x, "a=1;b=1;0a>b1;0>a1;"), 2);
        due("reads as told, not by letters", Rooms.take(x, "a=1;b=1;c=1;d=1;0cab>d1;"), 1);
        due("first", x.stepTold(0, 6), 2);
        due("second", x.stepTold(0, 7), 0);
        due("third", x.stepTold(0, 8), 1);
        due("sizes of nothing", Rooms.take(x, "a=0;b=00+00A;"), 0);
        due("0", x.bufferTold(0, 0), 0);
        due("00+00A", x.bufferTold(1, 0), 0);
        due("wanted ahead of its writer", Rooms.take(x, "a=1;a!;0>a0;"), 1);
        due("wanted", x.bufferTold(0, 2), 1);
    }

    /** Nothing of a program ahead shines through, whichever it was. */
    private static void programsBehind() {
        BufferRoom x = new BufferRoom();
        for (int turn = 0; turn < 3; turn++) {
            Rooms.take(x, "a=1+2+3;b=2A;c=3;d=4;0a>d1;1ad>c2;2c>b3;a!;b!;");
            due("wanted", x.bufferTold(1, 2), 1);
            for (int again = 0; again <= turn; again++) {
                due("one step", Rooms.take(x, "b=7;a=3;0b>a1;"), 1);
                due("terms", x.taken(1, 0, 6), 1);
                due("size", x.bufferTold(1, 0), 7);
                due("not wanted", x.bufferTold(1, 2), 0);
                due("not written", x.bufferTold(1, 1), -1);
                due("alive from", x.bufferTold(1, 3), 0);
                due("alive till", x.bufferTold(1, 4), 0);
                due("written", x.bufferTold(0, 1), 0);
                due("no such", x.bufferTold(2, 0), -5);
                due("reads", x.stepTold(0, 3), 1);
                due("read", x.stepTold(0, 6), 1);
                due("load", x.load(0), 10);
                due("least peak", x.leastPeak(-1), 10);
            }
        }
    }

    private static void fault(String text, int place) {
        due("program of " + text, Rooms.take(new BufferRoom(), text), -100 - place);
    }

    private static void faults() {
        fault("a", 1);
        fault("a=", 2);
        fault("a=1", 3);
        fault("a=12", 4);
        fault("a=123;", 4);
        fault("a=1A", 4);
        fault("a=1AA;", 4);
        fault("a=1E;", 3);
        fault("a=1a;", 3);
        fault("a=A;", 2);
        fault("a=1+;", 4);
        fault("a=1+", 4);
        fault("a=1++2;", 4);
        fault("a=1+2+3+4;b", 11);
        fault("a=1+2+3+4+5;", 10);
        fault("a=1+2+3+4+", 10);
        fault("a=1+2+3+4+;", 10);
        fault("a=1 ;", 3);
        fault(" a=1;", 0);
        fault("a=1; b=1;", 4);
        fault(";", 0);
        fault("m=1;", 0);
        fault("A=1;", 0);
        fault("a=1;a=2;", 5);
        fault("a!;", 1);
        fault("a=1;a!", 6);
        fault("a=1;a!!", 6);
        fault("a=1;a!;a!;", 7);
        fault("a=1;a!;a=1;", 7);
        fault("6", 0);
        fault("9", 0);
        fault("0", 1);
        fault("0a>b1;", 1);
        fault("0>a1;", 2);
        fault("0>", 2);
        fault("0>;", 2);
        fault("a=1;0>1;", 6);
        fault("a=1;0>a;", 7);
        fault("a=1;0>a1", 8);
        fault("a=1;0>a12", 9);
        fault("a=1;0>a123;", 9);
        fault("a=1;0>a1A;", 8);
        fault("a=1;0a>a1;", 7);
        fault("a=1;0aa>", 6);
        fault("a=1;0ab>a1;", 6);
        fault("a=1;0a!", 6);
        fault("a=1;0>a1;0>a2;", 11);
        fault("a=1;0>a1;0>", 11);
        fault("a=1;b=1;c=1;d=1;e=1;f=1;0abcde>f1;", 29);
        fault("a=1;\u00e1=1;", 4);
    }

    private static void mostOfAll() {
        StringBuilder text = new StringBuilder();
        for (char b = 'a'; b <= 'l'; b++) {
            text.append(b).append("=1;");
        }
        for (char b = 'a'; b <= 'j'; b++) {
            text.append("0>").append(b).append("1;");
        }
        due("ten steps", Rooms.take(new BufferRoom(), text.toString()), 10);
        fault(text + "0>k1;", text.length());
        due("ten steps, and wanted", Rooms.take(new BufferRoom(), text + "k!;l!;"), 10);
        fault(text + "m=1;", text.length());
        text.setLength(0);
        for (char b = 'a'; b <= 'l'; b++) {
            text.append(b).append("=99A+98B+97C+96D;");
        }
        text.append("0>a1;0>b1;0>c1;0>d1;");
        BufferRoom x = new BufferRoom();
        due("236 bytes", Rooms.feed(x, text.toString()), 236);
        due("240 bytes", Rooms.feed(x, "0>e"), 239);
        due("240 bytes", x.feed('1', 1), 240);
        due("too early", x.program(), -100 - 240);
        Rooms.feed(x, text.toString());
        due("239 bytes", Rooms.feed(x, "l!;"), 239);
        due("240 bytes", x.feed('k', 1), 240);
        due("too early", x.program(), -100 - 240);
        text.setLength(231);
        Rooms.feed(x, text.toString());
        due("240 bytes", Rooms.feed(x, "a!;b!;l!;"), 240);
        due("all 240", x.program(), 3);
        due("the last", x.bufferTold(11, 2), 1);
        // what an earlier text left behind a shorter one is not of it
        due("a part of it", Rooms.take(x, "a=99"), -104);
        due("a part of it", Rooms.take(x, "a"), -101);
    }

    private static void letters() {
        BufferRoom x = Rooms.with("a=7A+2B+3+99D;0>a1;");
        due("at first", x.bufferTold(0, 0), 111);
        due("A", x.letter(0, 0), 1);
        due("B", x.letter(1, 99), 1);
        due("D", x.letter(3, 10), 1);
        due("B again", x.letter(1, 50), 99);
        due("its size", x.bufferTold(0, 0), 0 + 100 + 3 + 990);
        due("its load", x.load(0), 1093);
        due("letter -1", x.letter(-1, 1000), -1);
        due("letter 4", x.letter(4, 0), -1);
        due("100", x.letter(0, 100), -2);
        due("-1", x.letter(0, -1), -2);
        due("refusals change nothing", x.count(4), 0);
        x.go(1);
        due("none ahead of state", x.letter(4, 0), -1);
        due("bad ahead of state", x.letter(0, 100), -2);
        due("state", x.letter(0, 1), -3);
        x.again();
        due("again", x.letter(0, 1), 0);
        due("letters stay", Rooms.take(x, "b=1A+1B+1C+1D;"), 0);
        due("as they were", x.bufferTold(1, 0), 1 + 50 + 1 + 10);
        BufferRoom round = Rooms.with("a=1A;b=1;0a>b1;0b>a1;");
        due("without an order", round.letter(0, 9), 1);
        due("its size", round.bufferTold(0, 0), 9);
    }

    private static void kinds() {
        BufferRoom x = new BufferRoom();
        int[] ticks = {7, 4, 7, 6, 21, 7};
        int[] scratch = {0, 0, 31, 50, 131, 3};
        int[] over = {0, 0, 1, 0, 1, 1};
        for (int kind = 0; kind < 6; kind++) {
            due("ticks of " + kind, x.kindTold(kind, 0, 7, 31), ticks[kind]);
            due("scratch of " + kind, x.kindTold(kind, 1, 100, 31), scratch[kind]);
            due("over of " + kind, x.kindTold(kind, 2, 7, 31), over[kind]);
            due("what 3 of " + kind, x.kindTold(kind, 3, 7, 31), -2);
            due("what -1 of " + kind, x.kindTold(kind, -1, 7, 31), -2);
            due("a 1000", x.kindTold(kind, 2, 1000, 0), -2);
            due("a -1", x.kindTold(kind, 1, -1, 0), -2);
            due("b 1000", x.kindTold(kind, 0, 0, 1000), -2);
            due("b -1", x.kindTold(kind, 0, 0, -1), -2);
            due("999", x.kindTold(kind, 2, 999, 999), over[kind]);
        }
        due("half of the greater one, written", x.kindTold(3, 1, 10, 31), 15);
        due("a copy of no time", x.kindTold(1, 0, 0, 0), 0);
        due("a turn of no time", x.kindTold(3, 0, 0, 0), 2);
        due("an eighth", x.kindTold(5, 1, 0, 999), 124);
        due("kind -1", x.kindTold(-1, 0, 0, 0), -2);
        due("kind 6", x.kindTold(6, 0, 0, 0), -2);
    }

    private static void counts() {
        BufferRoom x = Rooms.with("a=1;b=2;0>a1;0>b1;");
        x.letter(2, 42);
        Rooms.feed(x, "abc");
        due("steps", x.count(0), 2);
        due("bytes", x.count(1), 3);
        due("programs", x.count(2), 1);
        due("not told", x.count(3), 0);
        Rooms.order(x, 1, 0);
        due("told", x.count(3), 1);
        due("C", x.count(6), 42);
        due("D", x.count(7), 1);
        due("-1", x.count(-1), -2);
        due("8", x.count(8), -2);
        x.program();
        due("told yet, by a fault", x.count(3), 1);
        x.program();
        due("of a new one none is told", x.count(3), 0);
        due("programs", x.count(2), 2);
    }
}

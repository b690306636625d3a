/** Promises 1, 2, 3, 10 and 11: each sentence that names an edge has a test of its own. */
public final class TapeTest {
    public static void main(String[] args) {
        String promise = "Promise 1";
        Check.sentence(promise, "THE TAPE is empty", TapeTest::newTape);
        Check.sentence(promise, "there are no NODES", TapeTest::newNodes);
        promise = "Promise 2";
        Check.sentence(promise, "The 20 bytes of five ints, the highest of each first, come to the TAPE", TapeTest::feed);
        Check.sentence(promise, "it would have more than 4096: IndexOutOfBoundsException", TapeTest::feedTooMuch);
        Check.sentence(promise, "Answers its length.", TapeTest::feedAnswers);
        promise = "Promise 3";
        Check.sentence(promise, "The TAPE keeps its first n bytes", TapeTest::endKeeps);
        Check.sentence(promise, "n 0 .. its length.", TapeTest::endRange);
        Check.sentence(promise, "Answers n.", TapeTest::endAnswers);
        promise = "Promise 10";
        Check.sentence(promise, "0 the length of THE TAPE", TapeTest::countTape);
        Check.sentence(promise, "1 NODES.", TapeTest::countNodes);
        Check.sentence(promise, "what 0, 1.", TapeTest::countRange);
        promise = "Promise 11";
        Check.sentence(promise, "8 bytes of the TAPE from i on, the highest first", TapeTest::word);
        Check.sentence(promise, "zeros behind its end", TapeTest::wordBehindTheEnd);
        Check.sentence(promise, "i is none of its bytes: IndexOutOfBoundsException", TapeTest::wordRange);
        Check.finish();
    }

    private static void newTape() {
        RuleReader x = new RuleReader();
        Check.due("the length of the tape", 0, x.count(0));
        Check.bounds("word(0)", () -> x.word(0));
        Check.range("end(1)", () -> x.end(1));
        Check.due("end(0)", 0, x.end(0));
        Check.unsupported("read(false)", () -> x.read(false));
        Check.unsupported("read(true)", () -> x.read(true));
        RuleReader other = new RuleReader();
        other.feed(1, 2, 3, 4, 5);
        Check.due("the tape is the object's own", 0, x.count(0));
        Check.due("a tape made when another was fed", 0, new RuleReader().count(0));
        Check.due("wrap of an empty tape", 2, x.wrap(0, 4, false));
        Check.due("add to an empty tape", 3, new RuleReader().add(0, 2, 0));
    }

    private static void newNodes() {
        RuleReader x = new RuleReader();
        Check.due("nodes", 0, x.count(1));
        for (int what = 0; what < 8; what++) {
            int asked = what;
            Check.range("node(0, " + what + ")", () -> x.node(0, asked));
        }
        Check.range("number(0)", () -> x.number(0));
        Check.range("compare(0, 0)", () -> x.compare(0, 0));
        RuleReader other = Check.reading("05 00");
        Check.due("nodes of another", 1, other.count(1));
        Check.due("the nodes are the object's own", 0, x.count(1));
        Check.due("nodes made when another has read", 0, new RuleReader().count(1));
    }

    private static void feed() {
        RuleReader x = new RuleReader();
        x.feed(0x01020304, 0x05060708, -1, 0x80000000, 0x7f00ff0e);
        Check.tape("fed once", x, "01 02 03 04 05 06 07 08 ff ff ff ff 80 00 00 00 7f 00 ff 0e");
        x.feed(0x10000000, 0, 0, 0x00000080, 0x11);
        Check.tape("fed twice", x, "01 02 03 04 05 06 07 08 ff ff ff ff 80 00 00 00 7f 00 ff 0e"
            + " 10 00*14 80 00 00 00 11");
        RuleReader y = new RuleReader();
        y.feed(Integer.MIN_VALUE, Integer.MAX_VALUE, 0, -1, -2);
        Check.tape("the least and the greatest int", y, "80 00 00 00 7f ff ff ff 00*4 ff*4 ff ff ff fe");
        y.end(3);
        y.feed(1, 2, 3, 4, 5);
        Check.tape("fed behind an end", y, "80 00 00 00 00 00 01 00 00 00 02 00 00 00 03 00 00 00 04 00 00 00 05");
    }

    private static void feedTooMuch() {
        RuleReader x = new RuleReader();
        for (int i = 1; i <= 204; i++) {
            x.feed(i, i, i, i, i);
        }
        Check.bounds("feed from 4080", () -> x.feed(1, 2, 3, 4, 5));
        Check.due("the length behind it", 4080, x.count(0));
        Check.due("the last bytes behind it", 204L << 32, x.word(4076));
        x.end(4077);
        Check.bounds("feed from 4077", () -> x.feed(0, 0, 0, 0, 0));
        Check.due("the length behind it", 4077, x.count(0));
        x.end(4076);
        Check.due("feed from 4076", 4096, x.feed(1, 2, 3, 4, 5));
        Check.due("the last bytes", 5L << 32, x.word(4092));
        Check.bounds("feed on a full tape", () -> x.feed(0, 0, 0, 0, 0));
        Check.bounds("feed on a full tape again", () -> x.feed(-1, -1, -1, -1, -1));
        Check.due("the length of a full tape", 4096, x.count(0));
        for (int i = 1; i < 204; i++) {
            Check.due("int " + i, i, x.word(20 * (i - 1)) >>> 32);
        }
    }

    private static void feedAnswers() {
        RuleReader x = new RuleReader();
        for (int i = 1; i <= 204; i++) {
            Check.due("feed " + i, 20 * i, x.feed(i, i, i, i, i));
        }
        x.end(4076);
        Check.due("feed to 4096", 4096, x.feed(0, 0, 0, 0, 0));
        x.end(1);
        Check.due("feed behind end(1)", 21, x.feed(0, 0, 0, 0, 0));
    }

    private static void endKeeps() {
        RuleReader x = Check.holding("01 02 03 04 05");
        x.end(5);
        Check.tape("end(5)", x, "01 02 03 04 05");
        x.end(4);
        Check.tape("end(4)", x, "01 02 03 04");
        x.end(2);
        Check.tape("end(2)", x, "01 02");
        x.feed(0x03000000, 0, 0, 0, 0);
        Check.tape("what was cut off does not come back", x, "01 02 03 00*19");
        x.end(0);
        Check.tape("end(0)", x, "");
        Check.bounds("word(0) behind end(0)", () -> x.word(0));
        RuleReader y = Check.full(4096);
        long last = y.word(4088);
        y.end(4096);
        Check.due("the last word behind end(4096)", last, y.word(4088));
        y.end(4095);
        Check.due("the last word behind end(4095)", last & ~255L, y.word(4088));
        Check.due("the length behind end(4095)", 4095, y.count(0));
    }

    private static void endRange() {
        for (int length : new int[] {0, 1, 5, 300}) {
            for (int wrong : new int[] {-1, length + 1, length + 2, 4096, 4097, Integer.MIN_VALUE, Integer.MAX_VALUE}) {
                RuleReader x = Check.holding("aa*" + length);
                Check.range("end(" + wrong + ") of " + length, () -> x.end(wrong));
                Check.tape("end(" + wrong + ") of " + length, x, "aa*" + length);
            }
        }
        RuleReader full = Check.full(4096);
        Check.range("end(4097) of a full tape", () -> full.end(4097));
        Check.due("the length of a full tape", 4096, full.count(0));
        full.end(2);
        Check.range("end(3) of 2, where there were more before", () -> full.end(3));
        full.end(0);
        Check.range("end(1) of none, where there were more before", () -> full.end(1));
    }

    private static void endAnswers() {
        RuleReader x = Check.full(4096);
        for (int n : new int[] {4096, 4095, 257, 256, 255, 128, 127, 1, 1, 0, 0}) {
            Check.due("end(" + n + ")", n, x.end(n));
            Check.due("count(0)", n, x.count(0));
        }
    }

    private static void countTape() {
        RuleReader x = new RuleReader();
        Check.due("of a new object", 0, x.count(0));
        x.add(0, 2, 5);
        Check.due("behind add", 3, x.count(0));
        x.wrap(0, 16, true);
        Check.due("behind wrap", 5, x.count(0));
        x.read(true);
        Check.due("behind read", 5, x.count(0));
        x.feed(0, 0, 0, 0, 0);
        Check.due("behind feed", 25, x.count(0));
        x.end(7);
        Check.due("behind end", 7, x.count(0));
        Check.due("of a full tape", 4096, Check.full(4096).count(0));
    }

    private static void countNodes() {
        RuleReader x = new RuleReader();
        Check.due("of a new object", 0, x.count(1));
        Check.load(x, Check.bytes("30 04 05 00 05 00"));
        Check.due("before a reading", 0, x.count(1));
        x.read(true);
        Check.due("behind a reading", 3, x.count(1));
        x.end(1);
        Check.due("behind end", 3, x.count(1));
        Check.unsupported("read", () -> x.read(false));
        Check.due("behind a reading that was refused", 3, x.count(1));
        Check.load(x, Check.bytes("05 00"));
        x.read(true);
        Check.due("behind another reading", 1, x.count(1));
    }

    private static void countRange() {
        RuleReader x = Check.reading("30 04 05 00 05 00");
        for (int what : new int[] {-1, 2, 3, Integer.MIN_VALUE, Integer.MAX_VALUE}) {
            Check.range("count(" + what + ")", () -> x.count(what));
            Check.range("count(" + what + ") of a new object", () -> new RuleReader().count(what));
        }
        Check.due("count(0)", 6, x.count(0));
        Check.due("count(1)", 3, x.count(1));
    }

    private static void word() {
        RuleReader x = Check.holding("81 02 03 04 05 06 07 f8 09 0a");
        Check.due("word(0)", 0x81020304050607f8L, x.word(0));
        Check.due("word(1)", 0x020304050607f809L, x.word(1));
        Check.due("word(2)", 0x0304050607f8090aL, x.word(2));
        RuleReader y = Check.holding("ff*8 80 00*7 7f ff*7");
        Check.due("all bits", -1, y.word(0));
        Check.due("the least", Long.MIN_VALUE, y.word(8));
        Check.due("the greatest", Long.MAX_VALUE, y.word(16));
        Check.due("the last of a full tape", 0xfffffffd_85868788L, Check.full(4096).word(4088));
    }

    private static void wordBehindTheEnd() {
        RuleReader x = Check.holding("81 02 03 04 05 06 07 f8 09 ff");
        Check.due("word(2)", 0x0304050607f809ffL, x.word(2));
        Check.due("word(3)", 0x04050607f809ff00L, x.word(3));
        Check.due("word(8)", 0x09ff000000000000L, x.word(8));
        Check.due("word(9)", 0xff00000000000000L, x.word(9));
        x.end(4);
        Check.due("word(0), where more was before", 0x8102030400000000L, x.word(0));
        Check.due("word(2), where more was before", 0x0304000000000000L, x.word(2));
        RuleReader full = Check.full(4096);
        Check.due("word(4095) of a full tape", 0x88L << 56, full.word(4095));
        Check.due("word(4089) of a full tape", 0xfffffd_8586878800L, full.word(4089));
        Check.due("word(0) of one byte", 0xaaL << 56, Check.holding("aa").word(0));
        Check.due("word(63) of 64 bytes", 0xaaL << 56, Check.holding("aa*64").word(63));
    }

    private static void wordRange() {
        for (int length : new int[] {0, 1, 7, 8, 9, 64, 65, 128}) {
            RuleReader x = Check.holding("aa*" + length);
            for (int i : new int[] {-1, -8, length, length + 1, 4095, 4096, Integer.MIN_VALUE, Integer.MAX_VALUE,
                Integer.MAX_VALUE - 7}) {
                Check.bounds("word(" + i + ") of " + length, () -> x.word(i));
            }
        }
        RuleReader full = Check.full(4096);
        Check.bounds("word(4096) of a full tape", () -> full.word(4096));
        Check.bounds("word(-1) of a full tape", () -> full.word(-1));
        full.end(4);
        Check.bounds("word(4), where more was before", () -> full.word(4));
        Check.due("word(3)", 4L << 56, full.word(3));
    }
}

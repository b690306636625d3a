/** Promises 1, 2, 3, 10 and 11: a new object, feed, end, count, word. */
public final class TapeTest {
    public static void main(String[] args) {
        newObject();
        feed();
        feedToTheEdge();
        end();
        count();
        word();
        Check.finish();
    }

    private static void newObject() {
        RuleReader x = new RuleReader();
        Check.due("new: tape", 0, x.count(0));
        Check.due("new: nodes", 0, x.count(1));
        Check.bounds("new: word(0)", () -> x.word(0));
        Check.range("new: node(0, 0)", () -> x.node(0, 0));
        Check.range("new: number(0)", () -> x.number(0));
        Check.range("new: compare(0, 0)", () -> x.compare(0, 0));
        Check.unsupported("new: read(false)", () -> x.read(false));
        Check.unsupported("new: read(true)", () -> x.read(true));
        RuleReader other = new RuleReader();
        other.feed(1, 2, 3, 4, 5);
        Check.due("new: objects have tapes of their own", 0, x.count(0));
    }

    private static void feed() {
        RuleReader x = new RuleReader();
        Check.due("feed once", 20, x.feed(0x01020304, 0x05060708, -1, 0x80000000, 0x7f00ff0e));
        Check.tape("feed once", x, "01 02 03 04 05 06 07 08 ff ff ff ff 80 00 00 00 7f 00 ff 0e");
        Check.due("feed twice", 40, x.feed(0x10000000, 0, 0, 0, 0x11));
        Check.due("feed twice: byte 20", 0x10, x.word(20) >>> 56);
        Check.due("feed twice: byte 39", 0x11, x.word(39) >>> 56);
        Check.due("feed twice: byte 0", 1, x.word(0) >>> 56);
    }

    private static void feedToTheEdge() {
        RuleReader x = new RuleReader();
        for (int i = 1; i <= 204; i++) {
            Check.due("feed " + i, 20 * i, x.feed(i, i, i, i, i));
        }
        Check.bounds("feed beyond 4096", () -> x.feed(1, 2, 3, 4, 5));
        Check.due("feed beyond 4096 changes nothing", 4080, x.count(0));
        Check.due("feed beyond 4096: last bytes stay", 204L << 32, x.word(4076));
        x.end(4077);
        Check.bounds("feed from 4077", () -> x.feed(0, 0, 0, 0, 0));
        x.end(4076);
        Check.due("feed from 4076", 4096, x.feed(1, 2, 3, 4, 5));
        Check.due("feed from 4076: last bytes", 5L << 32, x.word(4092));
        Check.bounds("feed on a full tape", () -> x.feed(0, 0, 0, 0, 0));
        for (int i = 1; i < 204; i++) {
            Check.due("int " + i, i, x.word(20 * (i - 1)) >>> 32);
        }
    }

    private static void end() {
        RuleReader x = Check.holding("01 02 03 04 05");
        Check.range("end(-1)", () -> x.end(-1));
        Check.range("end(6)", () -> x.end(6));
        Check.range("end(MIN)", () -> x.end(Integer.MIN_VALUE));
        Check.range("end(MAX)", () -> x.end(Integer.MAX_VALUE));
        Check.tape("end that throws", x, "01 02 03 04 05");
        Check.due("end(5)", 5, x.end(5));
        Check.tape("end(5)", x, "01 02 03 04 05");
        Check.due("end(2)", 2, x.end(2));
        Check.tape("end(2)", x, "01 02");
        Check.range("end(3) of 2", () -> x.end(3));
        Check.due("feed behind end(2)", 22, x.feed(0x03000000, 0, 0, 0, 0));
        Check.due("feed behind end(2): bytes", 0x0102030000000000L, x.word(0));
        Check.due("end(0)", 0, x.end(0));
        Check.due("end(0): tape", 0, x.count(0));
        Check.due("end(0) again", 0, x.end(0));
        Check.range("end(1) of none", () -> x.end(1));
    }

    private static void count() {
        RuleReader x = Check.reading("30 04 05 00 05 00");
        Check.due("count(0)", 6, x.count(0));
        Check.due("count(1)", 3, x.count(1));
        for (int what : new int[] {-1, 2, Integer.MIN_VALUE, Integer.MAX_VALUE}) {
            Check.range("count(" + what + ")", () -> x.count(what));
        }
        x.end(1);
        Check.due("count(0) after end", 1, x.count(0));
        Check.due("count(1) after end", 3, x.count(1));
    }

    private static void word() {
        RuleReader x = Check.holding("81 02 03 04 05 06 07 f8 09 0a");
        Check.due("word(0)", 0x81020304050607f8L, x.word(0));
        Check.due("word(1)", 0x02030405_0607f809L, x.word(1));
        Check.due("word(2)", 0x03040506_07f8090aL, x.word(2));
        Check.due("word(3)", 0x04050607_f8090a00L, x.word(3));
        Check.due("word(9)", 0x0a00000000000000L, x.word(9));
        for (int i : new int[] {-1, 10, 11, 64, 4096, Integer.MIN_VALUE, Integer.MAX_VALUE}) {
            Check.bounds("word(" + i + ")", () -> x.word(i));
        }
        x.end(4);
        Check.due("word(2) after end(4): no bytes of before", 0x0304000000000000L, x.word(2));
        Check.bounds("word(4) after end(4)", () -> x.word(4));
    }
}

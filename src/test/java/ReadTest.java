/** Promises 4 and 5: each sentence that names an edge has a test of its own. What a VALUE is: TermsTest. */
public final class ReadTest {
    public static void main(String[] args) {
        String promise = "Promise 4";
        Check.sentence(promise, "The TAPE is just one VALUE", ReadTest::justOne);
        Check.sentence(promise, "(strict: STRICT)", ReadTest::strict);
        Check.sentence(promise, "with all in it: these are the NODES.", ReadTest::allInIt);
        Check.sentence(promise, "with all in it: these are the NODES.", ReadTest::asManyAsCanBe);
        Check.sentence(promise, "It is not: UnsupportedOperationException", ReadTest::isNot);
        Check.sentence(promise, "(the NODES of before stay)", ReadTest::nodesStay);
        Check.sentence(promise, "(The TAPE stays.)", ReadTest::tapeStays);
        Check.sentence(promise, "Answers how many.", ReadTest::howMany);
        promise = "Promise 5";
        Check.sentence(promise, "Of NODE n:", ReadTest::nodeRange);
        Check.sentence(promise, "0 class, 1 number, 2 whether it is constructed (1, 0)", ReadTest::identifier);
        Check.sentence(promise, "3 the PLACE where it begins, from 0, 4 where its contents begin", ReadTest::places);
        Check.sentence(promise, "5 how many bytes these are (without the two at their end)", ReadTest::sizes);
        Check.sentence(promise, "6 the NODE in which it is directly (-1 for NODE 0)", ReadTest::parents);
        Check.sentence(promise, "7 how many are in it directly.", ReadTest::children);
        Check.sentence(promise, "what 0 .. 7.", ReadTest::whatRange);
        Check.finish();
    }

    private static void justOne() {
        Readings.none("");
        Readings.ok("05 00", 1);
        Readings.none("05 00 05 00");
        Readings.none("05 00 00");
        Readings.none("05 00 00 00");
        Readings.none("30 02 05 00 05 00");
        Readings.none("30 00 30 00");
        Readings.none("30 80 00 00 05 00");
        Readings.none("05");
        Readings.ok("00 00", 1);
        RuleReader x = Check.holding("04 03 01 02 03");
        Check.due("one value", 1, x.read(true));
        x.end(4);
        Check.unsupported("a byte too few", () -> x.read(true));
        x.feed(0x03000000, 0, 0, 0, 0);
        x.end(6);
        Check.unsupported("a byte too many", () -> x.read(true));
        x.end(5);
        Check.due("one value again", 1, x.read(true));
    }

    private static void strict() {
        RuleReader x = Check.holding("30 80 04 81 01 05 00 00");
        Check.unsupported("read(true) of an open one", () -> x.read(true));
        Check.due("read(false) of an open one", 2, x.read(false));
        Check.unsupported("read(true) behind read(false)", () -> x.read(true));
        RuleReader y = Check.holding("30 04 04 81 01 05");
        Check.unsupported("read(true) of a length too long", () -> y.read(true));
        Check.due("read(false) of a length too long", 2, y.read(false));
        RuleReader z = Check.holding("30 03 04 01 05");
        Check.due("read(true) of a strict one", 2, z.read(true));
        Check.due("read(false) of a strict one", 2, z.read(false));
        Check.due("read(true) of a strict one again", 2, z.read(true));
    }

    private static void allInIt() {
        RuleReader x = Check.reading("7f 81 01 80 02 01 05 bf 1f 81 07 df 20 00 30 80 00 00 24 00 00 00");
        Check.due("nodes", 6, x.count(1));
        Check.nodeIs(x, 0, 1, 129, 1, 0, 4, 16, -1, 3);
        Check.nodeIs(x, 1, 0, 2, 0, 4, 6, 1, 0, 0);
        Check.nodeIs(x, 2, 2, 31, 1, 7, 11, 7, 0, 2);
        Check.nodeIs(x, 3, 3, 32, 0, 11, 14, 0, 2, 0);
        Check.nodeIs(x, 4, 0, 16, 1, 14, 16, 0, 2, 0);
        Check.nodeIs(x, 5, 0, 4, 1, 18, 20, 0, 0, 0);
        RuleReader y = Check.reading("30 06 30 04 31 02 05 00");
        Check.nodeIs(y, 0, 0, 16, 1, 0, 2, 6, -1, 1);
        Check.nodeIs(y, 1, 0, 16, 1, 2, 4, 4, 0, 1);
        Check.nodeIs(y, 2, 0, 17, 1, 4, 6, 2, 1, 1);
        Check.nodeIs(y, 3, 0, 5, 0, 6, 8, 0, 2, 0);
        RuleReader z = Check.reading("04 04 30 02 05 00");
        Check.due("what is in one that is not constructed is none", 1, z.count(1));
    }

    private static void asManyAsCanBe() {
        byte[] bytes = new byte[4076];
        bytes[0] = 0x30;
        bytes[1] = (byte) 0x82;
        bytes[2] = 0x0f;
        bytes[3] = (byte) 0xfc;
        RuleReader x = new RuleReader();
        Check.load(x, bytes);
        x.feed(0, 0, 0, 0, 0);
        Check.due("read", 2047, x.read(true));
        Check.due("nodes", 2047, x.count(1));
        Check.nodeIs(x, 0, 0, 16, 1, 0, 4, 4092, -1, 2046);
        for (int n = 1; n < 2047; n += 93) {
            Check.nodeIs(x, n, 0, 0, 0, 2 * n + 2, 2 * n + 4, 0, 0, 0);
        }
        Check.nodeIs(x, 2046, 0, 0, 0, 4094, 4096, 0, 0, 0);
        Check.range("node(2047, 0)", () -> x.node(2047, 0));
        RuleReader y = new RuleReader();
        for (int i = 0; i < 204; i++) {
            y.feed(0x05000500, 0x05000500, 0x05000500, 0x05000500, 0x05000500);
        }
        for (int i = 0; i < 4; i++) {
            y.add(1, 1, i);
        }
        Check.due("wrap", 4096, y.wrap(0, 16, true));
        Check.due("read", 2045, y.read(true));
        Check.nodeIs(y, 0, 0, 16, 1, 0, 4, 4092, -1, 2044);
        Check.nodeIs(y, 2040, 0, 5, 0, 4 + 2 * 2039, 4 + 2 * 2040, 0, 0, 0);
        Check.nodeIs(y, 2044, 1, 1, 0, 4093, 4095, 1, 0, 0);
        Check.due("the number of the last", 3, y.number(2044));
        y.end(0);
        y.add(0, 2, 77);
        Check.due("read of a small one behind a great one", 1, y.read(true));
        Check.nodeIs(y, 0, 0, 2, 0, 0, 2, 1, -1, 0);
        Check.range("node(1, 0) behind a great one", () -> y.node(1, 0));
    }

    private static void isNot() {
        for (String text : new String[] {"", "05", "05 01", "05 00 00", "1f 1e 00", "04 80 00 00", "30 01 05",
            "30 80 05 00", Readings.lengthsWithin(40, "05 00")}) {
            RuleReader x = Check.holding(text);
            for (int i = 0; i < 3; i++) {
                Check.unsupported("read(false) of " + text, () -> x.read(false));
                Check.unsupported("read(true) of " + text, () -> x.read(true));
            }
        }
        RuleReader full = Check.full(4096);
        Check.unsupported("read of a full tape that is no value", () -> full.read(false));
    }

    private static void nodesStay() {
        RuleReader x = Check.reading("30 03 02 01 05");
        for (String text : new String[] {"30 05 04 00 04 00 04", "30 80 05 00 05 00 05 00", "04 80 00 00", ""}) {
            Check.load(x, Check.bytes(text));
            Check.unsupported("read(false) of " + text, () -> x.read(false));
            Check.unsupported("read(true) of " + text, () -> x.read(true));
            Check.due("nodes of before", 2, x.count(1));
            Check.nodeIs(x, 0, 0, 16, 1, 0, 2, 3, -1, 1);
            Check.nodeIs(x, 1, 0, 2, 0, 2, 4, 1, 0, 0);
            Check.due("number of before", 5, x.number(1));
            Check.due("order of before", -1, x.compare(0, 1));
        }
        Check.load(x, Check.bytes("30 80 00 00"));
        Check.unsupported("read(true) of an open one", () -> x.read(true));
        Check.due("nodes of before", 2, x.count(1));
        Check.due("read(false) of an open one", 1, x.read(false));
        Check.nodeIs(x, 0, 0, 16, 1, 0, 2, 0, -1, 0);
        Check.range("nodes of before are gone", () -> x.node(1, 0));
    }

    private static void tapeStays() {
        for (String text : new String[] {"30 03 02 01 05", "30 80 05 00 00 00", "30 03 02 01", "1f 80", "", "04 81 05 aa*5"}) {
            for (boolean strict : new boolean[] {false, true}) {
                RuleReader x = Check.holding(text);
                String first = Check.outcome(() -> x.read(strict));
                Check.tape("the tape", x, text);
                Check.same("a second reading", first, Check.outcome(() -> x.read(strict)));
                Check.tape("the tape", x, text);
            }
        }
    }

    private static void howMany() {
        for (int many = 1; many <= 60; many++) {
            String text = "30 " + Integer.toHexString(2 * many) + " 05 00".repeat(many);
            RuleReader x = Check.holding(text);
            Check.due("read(false) of " + text, 1 + many, x.read(false));
            Check.due("read(true) of " + text, 1 + many, x.read(true));
            Check.due("count(1) of " + text, 1 + many, x.count(1));
        }
        Check.due("read of one alone", 1, Check.holding("05 00").read(false));
        Check.due("read of 40 one within another", 40, Check.holding(Readings.lengthsWithin(39, "05 00")).read(true));
    }

    private static void nodeRange() {
        RuleReader x = Check.reading("30 03 02 01 05");
        for (int n : new int[] {-1, 2, 3, 8, 100000, Integer.MIN_VALUE, Integer.MAX_VALUE, 1 << 29, 1 << 28}) {
            for (int what : new int[] {0, 3, 7}) {
                Check.range("node(" + n + ", " + what + ")", () -> x.node(n, what));
            }
        }
        Check.due("the first", 16, x.node(0, 1));
        Check.due("the last", 2, x.node(1, 1));
    }

    private static void identifier() {
        RuleReader x = Check.reading("30 19 1e 00 3e 00 c0 00 e0 00 9f 1f 00 7f 87 ff ff ff 7f 00 5f 88 80 80 80 00 00");
        int[][] due = {{0, 16, 1}, {0, 30, 0}, {0, 30, 1}, {3, 0, 0}, {3, 0, 1}, {2, 31, 0},
            {1, Integer.MAX_VALUE, 1}, {1, -1, 0}};
        Check.due("nodes", due.length, x.count(1));
        for (int n = 0; n < due.length; n++) {
            for (int what = 0; what < 3; what++) {
                Check.due("node(" + n + ", " + what + ")", due[n][what], x.node(n, what));
            }
        }
    }

    private static void places() {
        RuleReader x = Check.reading("30 80 04 00 1f 1f 81 01 aa 24 80 04 ff 00*126 01 bb 00 00 00 00");
        int[][] due = {{0, 2}, {2, 4}, {4, 8}, {9, 11}, {11, 140}};
        Check.due("nodes", due.length, x.count(1));
        for (int n = 0; n < due.length; n++) {
            Check.due("node(" + n + ", 3)", due[n][0], x.node(n, 3));
            Check.due("node(" + n + ", 4)", due[n][1], x.node(n, 4));
        }
        RuleReader end = Check.reading("30 02 05 00");
        Check.due("where contents begin that are none, at the tape's end", 4, end.node(1, 4));
        RuleReader late = new RuleReader();
        Check.load(late, Check.bytes("04 82 0f e0 aa*4064"));
        late.add(0, 2, 1);
        late.wrap(0, 16, true);
        late.read(true);
        Check.nodeIs(late, 2, 0, 2, 0, 4072, 4074, 1, 0, 0);
    }

    private static void sizes() {
        RuleReader x = Check.reading("30 80 30 80 00 00 31 80 04 02 00 00 00 00 32 04 33 80 00 00 00 00");
        int[] due = {18, 0, 4, 2, 4, 0};
        Check.due("nodes", due.length, x.count(1));
        for (int n = 0; n < due.length; n++) {
            Check.due("node(" + n + ", 5)", due[n], x.node(n, 5));
        }
        for (int size : new int[] {0, 1, 127}) {
            Check.due("of " + size, size, Check.reading("04 " + Integer.toHexString(size) + " aa*" + size).node(0, 5));
        }
        Check.due("of 128", 128, Check.reading("04 81 80 aa*128").node(0, 5));
        Check.due("of 255", 255, Check.reading("04 81 ff aa*255").node(0, 5));
        Check.due("of 256", 256, Check.reading("04 82 01 00 aa*256").node(0, 5));
        RuleReader full = Check.full(4092);
        full.wrap(0, 4, false);
        full.read(true);
        Check.due("of a full tape", 4092, full.node(0, 5));
    }

    private static void parents() {
        RuleReader x = Check.reading("30 0e 31 06 32 02 81 00 82 00 33 02 83 00 84 00");
        int[] due = {-1, 0, 1, 2, 1, 0, 5, 0};
        for (int n = 0; n < due.length; n++) {
            Check.due("node(" + n + ", 6)", due[n], x.node(n, 6));
        }
        Check.due("of one alone", -1, Check.reading("05 00").node(0, 6));
        RuleReader deep = Check.reading(Readings.within(40, "30 80", "00 00"));
        for (int n = 0; n < 40; n++) {
            Check.due("node(" + n + ", 6) of 40 one within another", n - 1, deep.node(n, 6));
        }
    }

    private static void children() {
        RuleReader x = Check.reading("30 0e 31 06 32 02 81 00 82 00 33 02 83 00 84 00");
        int[] due = {3, 2, 1, 0, 0, 1, 0, 0};
        for (int n = 0; n < due.length; n++) {
            Check.due("node(" + n + ", 7)", due[n], x.node(n, 7));
        }
        Check.due("of one that is not constructed", 0, Check.reading("04 04 05 00 05 00").node(0, 7));
        Check.due("of an empty one", 0, Check.reading("30 00").node(0, 7));
        Check.due("of an empty open one", 0, Check.reading("30 80 00 00").node(0, 7));
        Check.due("of one with sixty", 60, Check.reading("30 78" + " 05 00".repeat(60)).node(0, 7));
        x.read(true);
        x.read(true);
        Check.due("of the same, read three times", 3, x.node(0, 7));
    }

    private static void whatRange() {
        RuleReader x = Check.reading("30 06 02 01 05 02 01 05");
        for (int n = 0; n < 3; n++) {
            int node = n;
            for (int what : new int[] {-1, -8, 8, 9, 16, Integer.MIN_VALUE, Integer.MAX_VALUE}) {
                Check.range("node(" + n + ", " + what + ")", () -> x.node(node, what));
            }
        }
        Check.nodeIs(x, 1, 0, 2, 0, 2, 4, 1, 0, 0);
        Check.range("node(-1, 8)", () -> x.node(-1, 8));
    }
}

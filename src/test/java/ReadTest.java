/** Promises 4 and 5: read, node, and the terms they rest on. */
public final class ReadTest {
    private static final int OK = 1;
    private static final int NOT_STRICT = 2;
    private static final int NONE = 3;

    public static void main(String[] args) {
        identifiers();
        lengths();
        openLengths();
        contents();
        depth();
        manyNodes();
        layout();
        bigNumbers();
        nodesStay();
        wrongNodes();
        Check.finish();
    }

    /** Whether text is a value that is strict, one that is not, or none; many is how many values. */
    private static void value(String text, int kind, int many) {
        RuleReader x = Check.holding(text);
        if (kind == NONE) {
            Check.unsupported("read(false) of " + text, () -> x.read(false));
            Check.due("nodes of " + text, 0, x.count(1));
        } else {
            Check.due("read(false) of " + text, many, x.read(false));
            Check.due("nodes of " + text, many, x.count(1));
        }
        RuleReader y = Check.holding(text);
        if (kind == OK) {
            Check.due("read(true) of " + text, many, y.read(true));
        } else {
            Check.unsupported("read(true) of " + text, () -> y.read(true));
            Check.due("nodes of " + text, 0, y.count(1));
        }
        Check.tape("read leaves the tape", x, text);
        Check.tape("read leaves the tape", y, text);
    }

    private static void ok(String text, int many) {
        value(text, OK, many);
    }

    private static void notStrict(String text, int many) {
        value(text, NOT_STRICT, many);
    }

    private static void none(String text) {
        value(text, NONE, 0);
    }

    private static void identifiers() {
        none("");
        none("05");
        none("1f");
        none("1f 1f");
        ok("00 00", 1);
        ok("05 00", 1);
        ok("1e 00", 1);
        ok("c5 00", 1);
        ok("1f 1f 00", 1);
        ok("1f 7f 00", 1);
        ok("3f 1f 00", 1);
        ok("ff 81 00 00", 1);
        none("1f 1e 00");
        none("1f 00 00");
        none("1f 80 1f 00");
        none("1f 80 81 1f 00");
        none("1f 80 00 00");
        none("1f 81");
        none("1f 81 80");
        none("1f 81 80 80");
        ok("1f 81 80 00 00", 1);
        ok("1f 87 ff ff ff 7f 00", 1);
        ok("1f 88 80 80 80 00 00", 1);
        ok("1f ff*40 7f 00", 1);
        none("1f ff*40 7f");
        none("30 03 1f 81 80 00 00");
    }

    private static void lengths() {
        none("04 01");
        none("04 00 00");
        ok("04 01 00", 1);
        ok("04 7f 00*127", 1);
        none("04 7f 00*126");
        none("04 7f 00*128");
        notStrict("04 81 00", 1);
        notStrict("04 81 7f 00*127", 1);
        ok("04 81 80 00*128", 1);
        ok("04 81 ff 00*255", 1);
        notStrict("04 82 00 80 00*128", 1);
        notStrict("04 82 00 ff 00*255", 1);
        ok("04 82 01 00 00*256", 1);
        notStrict("04 83 00 01 00 00*256", 1);
        notStrict("04 ff 00*127", 1);
        notStrict("04 ff 00*126 02 05 06", 1);
        notStrict("04 fe 00*126", 1);
        none("04 ff 00*126");
        none("04 ff 00*125 02 05 06");
        none("04 81");
        none("04 82 00");
        none("04 84 80 00 00 00");
        none("04 84 ff ff ff ff 00");
        none("04 85 01 00 00 00 00");
        none("04 85 01 00 00 00 01 00");
        none("04 88 01 00 00 00 00 00 00 01 00");
        none("04 89 01 00 00 00 00 00 00 00 01 00");
        none("04 ff 01 00*125 01 00");
        none("04 82 0f ff 00*4000");
        ok("04 82 0f a0 00*4000", 1);
        notStrict("30 04 04 81 01 07", 2);
        notStrict("30 81 03 04 01 07", 2);
    }

    private static void openLengths() {
        notStrict("30 80 00 00", 1);
        notStrict("a0 80 05 00 00 00", 2);
        notStrict("30 80 30 80 00 00 00 00", 2);
        notStrict("30 04 30 80 00 00", 2);
        notStrict("30 80 00 01 05 00 00", 2);
        notStrict("30 80 00 81 00 00 00", 2);
        notStrict("30 80 04 02 00 00 00 00", 2);
        notStrict("30 80 20 00 00 00", 2);
        notStrict("30 80 30 02 00 00 00 00", 3);
        notStrict("3f 1f 80 00 00", 1);
        none("30 80");
        none("30 80 00");
        none("30 80 00 00 00");
        none("30 80 00 00 00 00");
        none("30 80 05 00");
        none("30 80 05 00 00");
        none("30 80 30 80 00 00");
        none("30 80 30 80 00 00 00");
        none("30 02 30 80 00 00");
        none("30 03 30 80 00 00");
        none("30 05 30 80 05 00 00 00");
        none("04 80 00 00");
        none("1f 1f 80 00 00");
        none("30 04 04 80 00 00");
        none("30 80 00 01 00 00");
    }

    private static void contents() {
        ok("30 00", 1);
        ok("30 02 00 00", 2);
        ok("30 04 00 00 00 00", 3);
        ok("30 04 30 02 05 00", 3);
        ok("04 04 30 05 30 07", 1);
        none("30 01 00");
        none("30 01 05");
        none("30 03 05 00 05");
        none("30 03 04 02 05");
        none("30 03 02 02 05");
        none("30 04 30 03 05 00");
        none("30 02 05 00 05 00");
        none("05 00 05 00");
        none("30 05 02 01 05 05");
    }

    private static String within(int many, String opening, String closing) {
        StringBuilder text = new StringBuilder();
        for (int i = 0; i < many; i++) {
            text.append(opening).append(' ');
        }
        for (int i = 0; i < many; i++) {
            text.append(closing).append(' ');
        }
        return text.toString();
    }

    private static String lengthsWithin(int many, String innermost) {
        String text = innermost;
        int length = innermost.trim().split("\\s+").length;
        for (int i = 0; i < many; i++) {
            text = "30 " + Integer.toHexString(length) + " " + text;
            length += 2;
        }
        return text;
    }

    private static void depth() {
        notStrict(within(40, "30 80", "00 00"), 40);
        none(within(41, "30 80", "00 00"));
        ok(lengthsWithin(39, "05 00"), 40);
        ok(lengthsWithin(39, "30 00"), 40);
        none(lengthsWithin(40, "05 00"));
        none(lengthsWithin(40, "30 00"));
        ok(lengthsWithin(38, "30 04 05 00 05 00"), 41);
        none(lengthsWithin(60, "05 00"));
        none(within(1000, "30 80", "00 00"));
    }

    private static void manyNodes() {
        RuleReader x = Check.holding("05 00".repeat(2040).replace("05", " 05"));
        for (int i = 0; i < 4; i++) {
            x.add(1, 1, i);
        }
        Check.due("wrap of 4092", 4096, x.wrap(0, 16, true));
        Check.due("read of 4096", 2045, x.read(true));
        Check.nodeIs(x, 0, 0, 16, 1, 0, 4, 4092, -1, 2044);
        Check.nodeIs(x, 2040, 0, 5, 0, 4 + 2 * 2039, 4 + 2 * 2040, 0, 0, 0);
        Check.nodeIs(x, 2044, 1, 1, 0, 4093, 4095, 1, 0, 0);
        Check.due("number of the last", 3, x.number(2044));
        Check.range("node(2045, 0)", () -> x.node(2045, 0));

        byte[] most = new byte[4096];
        most[0] = 0x30;
        most[1] = (byte) 0x82;
        most[2] = 0x0f;
        most[3] = (byte) 0xfc;
        RuleReader y = new RuleReader();
        Check.load(y, java.util.Arrays.copyOf(most, 4076));
        y.feed(0, 0, 0, 0, 0);
        Check.due("read of as many as can be", 2047, y.read(true));
        Check.due("their nodes", 2047, y.count(1));
        Check.nodeIs(y, 2046, 0, 0, 0, 4094, 4096, 0, 0, 0);
        Check.range("node(2047, 0)", () -> y.node(2047, 0));
    }

    private static void layout() {
        RuleReader x = Check.reading("7f 81 01 80 02 01 05 bf 1f 81 07 df 20 00 30 80 00 00 24 00 00 00");
        Check.due("nodes", 6, x.count(1));
        Check.nodeIs(x, 0, 1, 129, 1, 0, 4, 16, -1, 3);
        Check.nodeIs(x, 1, 0, 2, 0, 4, 6, 1, 0, 0);
        Check.nodeIs(x, 2, 2, 31, 1, 7, 11, 7, 0, 2);
        Check.nodeIs(x, 3, 3, 32, 0, 11, 14, 0, 2, 0);
        Check.nodeIs(x, 4, 0, 16, 1, 14, 16, 0, 2, 0);
        Check.nodeIs(x, 5, 0, 4, 1, 18, 20, 0, 0, 0);

        RuleReader y = Check.reading("30 06 30 04 31 02 05 00");
        Check.nodeIs(y, 0, 0, 16, 1, 0, 2, 6, -1, 1);
        Check.nodeIs(y, 1, 0, 16, 1, 2, 4, 4, 0, 1);
        Check.nodeIs(y, 2, 0, 17, 1, 4, 6, 2, 1, 1);
        Check.nodeIs(y, 3, 0, 5, 0, 6, 8, 0, 2, 0);

        RuleReader z = Check.reading("c4 ff 00*126 03 01 02 03");
        Check.nodeIs(z, 0, 3, 4, 0, 0, 129, 3, -1, 0);
    }

    private static void bigNumbers() {
        tag("1e 00", 30);
        tag("1f 1f 00", 31);
        tag("1f 7f 00", 127);
        tag("1f 81 00 00", 128);
        tag("1f ff 7f 00", 16383);
        tag("1f 87 ff ff ff 7f 00", Integer.MAX_VALUE);
        tag("1f 88 80 80 80 00 00", -1);
        tag("1f 8f ff ff ff 7f 00", -1);
        tag("1f 90 80 80 80 00 00", -1);
        tag("1f 90 80 80 80 1f 00", -1);
        tag("1f 81 80 80 80 80 80 80 80 80 1f 00", -1);
        tag("1f 82 80 80 80 80 80 80 80 80 80 80 80 80 05 00", -1);
        tag("1f ff*3000 7f 00", -1);
    }

    private static void tag(String text, int want) {
        RuleReader x = Check.reading(text);
        Check.due("the number of " + text, want, x.node(0, 1));
        Check.due("the contents of " + text, 0, x.node(0, 5));
    }

    private static void nodesStay() {
        RuleReader x = Check.reading("30 03 02 01 05");
        for (String text : new String[] {"30 05 04 00 04 00 04", "30 80 05 00 05 00 05 00", "04 80 00 00", ""}) {
            Check.load(x, Check.bytes(text));
            Check.unsupported("read(false) of " + text, () -> x.read(false));
            Check.unsupported("read(true) of " + text, () -> x.read(true));
            Check.due("nodes of before", 2, x.count(1));
            Check.nodeIs(x, 0, 0, 16, 1, 0, 2, 3, -1, 1);
            Check.nodeIs(x, 1, 0, 2, 0, 2, 4, 1, 0, 0);
            Check.due("number of before", 5, x.number(1));
            Check.due("order of before", -1, x.compare(0, 1));
            Check.tape("tape of a reading that failed", x, text);
        }
        Check.load(x, Check.bytes("30 80 00 00"));
        Check.unsupported("read(true) of an open one", () -> x.read(true));
        Check.due("nodes of before", 2, x.count(1));
        Check.due("read(false) of an open one", 1, x.read(false));
        Check.nodeIs(x, 0, 0, 16, 1, 0, 2, 0, -1, 0);
        Check.range("nodes of before are gone", () -> x.node(1, 0));
    }

    private static void wrongNodes() {
        RuleReader x = Check.reading("30 03 02 01 05");
        for (int n : new int[] {-1, 2, 8, 100000, Integer.MIN_VALUE, Integer.MAX_VALUE, 1 << 29, 1 << 28}) {
            Check.range("node(" + n + ", 0)", () -> x.node(n, 0));
        }
        for (int what : new int[] {-1, 8, 9, 16, Integer.MIN_VALUE, Integer.MAX_VALUE}) {
            Check.range("node(0, " + what + ")", () -> x.node(0, what));
            Check.range("node(1, " + what + ")", () -> x.node(1, what));
        }
        Check.due("nodes", 2, x.count(1));
    }
}

/** Promises 6 and 9: each sentence that names an edge has a test of its own. */
public final class ContentsTest {
    public static void main(String[] args) {
        String promise = "Promise 6";
        Check.sentence(promise, "Of NODE n", ContentsTest::numberRange);
        Check.sentence(promise, "that is not constructed (else UnsupportedOperationException)", ContentsTest::constructed);
        Check.sentence(promise, "its contents as a number with sign", ContentsTest::signs);
        Check.sentence(promise, "1 .. 8 bytes", ContentsTest::widths);
        Check.sentence(promise, "the first nine bits not alike", ContentsTest::nineBits);
        Check.sentence(promise, "they are not: ArithmeticException", ContentsTest::refusedAgain);
        promise = "Promise 9";
        Check.sentence(promise, "NODES a, b:", ContentsTest::compareRange);
        Check.sentence(promise, "whether a's contents come before b's", ContentsTest::contentsAlone);
        Check.sentence(promise, "byte by byte without sign", ContentsTest::withoutSign);
        Check.sentence(promise, "the shorter ones with 0 behind", ContentsTest::shorterOnes);
        Check.sentence(promise, "-1, 0, 1 for before, same, behind.", ContentsTest::answers);
        Check.finish();
    }

    private static String valueOf(String contents) {
        int length = Check.bytes(contents).length;
        return "04 " + (length < 128 ? "" : "81 ") + Integer.toHexString(length) + " " + contents;
    }

    private static void number(String contents, long want) {
        RuleReader x = Check.reading(valueOf(contents));
        Check.due("number of " + contents, want, x.number(0));
        Check.due("number of " + contents + " again", want, x.number(0));
    }

    private static void noNumber(String contents) {
        RuleReader x = Check.reading(valueOf(contents));
        Check.arithmetic("number of " + contents, () -> x.number(0));
    }

    private static void numberRange() {
        RuleReader x = Check.reading("30 06 02 01 05 02 01 06");
        for (int n : new int[] {-1, 3, 4, 2048, Integer.MIN_VALUE, Integer.MAX_VALUE, 1 << 29}) {
            Check.range("number(" + n + ")", () -> x.number(n));
        }
        Check.due("number(1)", 5, x.number(1));
        Check.due("number(2)", 6, x.number(2));
        Check.range("number(0) of a new object", () -> new RuleReader().number(0));
    }

    private static void constructed() {
        RuleReader x = Check.reading("30 0b 02 01 05 30 00 04 00 02 02 00 05");
        Check.unsupported("number of a constructed one", () -> x.number(0));
        Check.due("number of one within", 5, x.number(1));
        Check.unsupported("number of an empty constructed one", () -> x.number(2));
        RuleReader y = Check.reading("30 80 22 03 02 01 05 00 00");
        Check.unsupported("number of an open one", () -> y.number(0));
        Check.unsupported("number of a constructed one of three bytes", () -> y.number(1));
        RuleReader z = Check.reading("22 02 00 00");
        Check.unsupported("number of a constructed one with nine bits alike", () -> z.number(0));
    }

    private static void signs() {
        number("00", 0);
        number("01", 1);
        number("7f", 127);
        number("80", -128);
        number("81", -127);
        number("ff", -1);
        number("00 80", 128);
        number("00 ff", 255);
        number("01 00", 256);
        number("7f ff", 32767);
        number("80 00", -32768);
        number("ff 7f", -129);
        number("ff 00", -256);
        number("80 80", -32640);
        number("7f ff ff ff", Integer.MAX_VALUE);
        number("80 00 00 00", Integer.MIN_VALUE);
        number("00 80 00 00 00", 0x80000000L);
        number("00 ff ff ff ff", 0xffffffffL);
        number("ff 7f ff ff ff", -0x80000001L);
        Check.due("whatever the identifier", -500, Check.reading("df 81 00 02 fe 0c").number(0));
    }

    private static void widths() {
        noNumber("");
        number("12", 0x12);
        number("12 34", 0x1234);
        number("12 34 56", 0x123456);
        number("12 34 56 78", 0x12345678);
        number("12 34 56 78 9a", 0x123456789aL);
        number("12 34 56 78 9a bc", 0x123456789abcL);
        number("12 34 56 78 9a bc de", 0x123456789abcdeL);
        number("12 34 56 78 9a bc de f0", 0x123456789abcdef0L);
        number("f2 34 56 78 9a bc de f0", 0xf23456789abcdef0L);
        number("7f ff*7", Long.MAX_VALUE);
        number("80 00*7", Long.MIN_VALUE);
        noNumber("12 34 56 78 9a bc de f0 11");
        noNumber("00 80 00*7");
        noNumber("00 ff*8");
        noNumber("ff 7f ff*7");
        noNumber("80 00*8");
        noNumber("01 00*8");
        noNumber("01 00*15");
        noNumber("01 00*254");
        noNumber("05*200");
    }

    private static void nineBits() {
        for (int width = 2; width <= 8; width++) {
            String rest = " 12*" + (width - 2);
            noNumber("00 00" + rest);
            noNumber("00 01" + rest);
            noNumber("00 7f" + rest);
            noNumber("ff 80" + rest);
            noNumber("ff 81" + rest);
            noNumber("ff ff" + rest);
            noNumber("00*" + width);
            noNumber("ff*" + width);
            long tail = 0x121212121212L & ((1L << 8 * (width - 2)) - 1);
            number("00 80" + rest, (0x80L << 8 * (width - 2)) + tail);
            number("ff 7f" + rest, (-0x81L << 8 * (width - 2)) + tail);
            number("01 00" + rest, (0x100L << 8 * (width - 2)) + tail);
            number("fe ff" + rest, (-0x101L << 8 * (width - 2)) + tail);
        }
        // of one byte there are no nine bits
        number("00", 0);
        number("ff", -1);
        // what stands behind it is not its own
        RuleReader x = Check.reading("30 08 02 01 00 02 01 ff 05 00");
        Check.due("number(1)", 0, x.number(1));
        Check.due("number(2)", -1, x.number(2));
        RuleReader y = Check.reading("30 05 02 01 ff 85 00");
        Check.due("ff, and a byte with the same first bit behind it", -1, y.number(1));
    }

    private static void refusedAgain() {
        RuleReader x = Check.reading("30 0a 04 00 02 02 00 05 02 02 00 80");
        for (int i = 0; i < 3; i++) {
            Check.arithmetic("number of an empty one", () -> x.number(1));
            Check.arithmetic("number of one with nine bits alike", () -> x.number(2));
            Check.due("number of one beside them", 128, x.number(3));
        }
    }

    /** Two values in one: nodes 1 and 2. */
    private static RuleReader two(String first, String second) {
        String both = valueOf(first) + " " + valueOf(second);
        int length = Check.bytes(both).length;
        String size = length < 128 ? "" : length < 256 ? "81 " : "82 01 ";
        return Check.reading("30 " + size + Integer.toHexString(length & 255) + " " + both);
    }

    private static void order(String first, String second, int want) {
        RuleReader x = two(first, second);
        Check.due("compare " + first + " with " + second, want, x.compare(1, 2));
        Check.due("compare " + second + " with " + first, -want, x.compare(2, 1));
        Check.due("compare " + first + " with itself", 0, x.compare(1, 1));
        Check.due("compare " + second + " with itself", 0, x.compare(2, 2));
    }

    private static void compareRange() {
        RuleReader x = two("01", "02");
        for (int n : new int[] {-1, 3, 4, 2048, Integer.MIN_VALUE, Integer.MAX_VALUE, 1 << 29}) {
            for (int other = 0; other < 3; other++) {
                int b = other;
                Check.range("compare(" + n + ", " + b + ")", () -> x.compare(n, b));
                Check.range("compare(" + b + ", " + n + ")", () -> x.compare(b, n));
            }
            Check.range("compare(" + n + ", " + n + ")", () -> x.compare(n, n));
        }
        Check.due("compare(1, 2)", -1, x.compare(1, 2));
        Check.due("compare(2, 2)", 0, x.compare(2, 2));
        Check.range("compare(0, 0) of a new object", () -> new RuleReader().compare(0, 0));
    }

    private static void contentsAlone() {
        RuleReader x = Check.reading("30 06 02 01 05 c4 01 05");
        Check.due("other identifiers, the same contents", 0, x.compare(1, 2));
        RuleReader y = Check.reading("30 07 02 01 05 04 81 01 05");
        Check.due("other lengths of the length, the same contents", 0, y.compare(1, 2));
        RuleReader v = Check.reading("30 09 04 01 01 05 00 04 02 01 05");
        Check.due("what is behind them is not theirs", -1, v.compare(1, 3));
        RuleReader z = Check.reading("30 0d 30 80 02 01 05 00 00 04 04 02 01 05 00");
        Check.due("an open one, without the two at its end", 0, z.compare(1, 3));
        RuleReader w = Check.reading("30 80 30 80 02 01 05 00 00 04 05 02 01 05 00 01 00 00");
        Check.due("an open one, what is behind it is not its own", -1, w.compare(1, 3));
        Check.due("the outermost with one within", 1, w.compare(0, 1));
        Check.due("the outermost with itself", 0, w.compare(0, 0));
        Check.due("a constructed one with one that is not", 0, Check.reading("30 0a 30 03 02 01 05 04 03 02 01 05")
            .compare(1, 3));
    }

    private static void withoutSign() {
        order("7f", "80", -1);
        order("00", "ff", -1);
        order("01", "ff", -1);
        order("7f", "ff", -1);
        order("80", "ff", -1);
        order("fe", "ff", -1);
        order("01 7f", "01 80", -1);
        order("00", "80", -1);
        order("", "ff", -1);
        order("", "80", -1);
        order("01 ff", "02", -1);
        order("01 ff", "02 00", -1);
        order("7f ff*8", "80 00*8", -1);
    }

    private static void shorterOnes() {
        order("", "", 0);
        order("", "00", 0);
        order("", "00*100", 0);
        order("", "01", -1);
        order("", "00*99 01", -1);
        order("01", "01 00", 0);
        order("01", "01 00 00 00", 0);
        order("01", "01 00 01", -1);
        order("01", "01 01", -1);
        order("00*2", "00*120", 0);
        order("00*2", "00*119 01", -1);
        order("05 00", "04 ff ff", 1);
        order("aa*7", "aa*8", -1);
        order("aa*127", "aa*127 00", 0);
        order("aa*127", "aa*127 01", -1);
        order("", "00*200", 0);
        order("", "00*199 ff", -1);
    }

    private static void answers() {
        order("05", "05", 0);
        order("05", "06", -1);
        order("00", "00", 0);
        order("00", "64", -1);
        order("01 02 03", "01 02 04", -1);
        order("01 02 03", "01 03 02", -1);
        order("02 01 01", "01 02 02", 1);
        order("00*100 01", "00*100 02", -1);
        order("00*100 01", "00*100 01", 0);
        order("aa*130", "aa*130", 0);
        RuleReader longest = Check.full(4000);
        longest.wrap(0, 4, false);
        longest.wrap(0, 16, true);
        longest.read(true);
        Check.due("the longest with itself", 0, longest.compare(1, 1));
        Check.due("the outermost with what is in it", 1, longest.compare(0, 1));
        Check.due("what is in it with the outermost", -1, longest.compare(1, 0));
        RuleReader halves = new RuleReader();
        Check.load(halves, Check.bytes("04 82 07 d0 bb*1999 01 04 82 07 d0 bb*1999 02"));
        halves.wrap(0, 16, true);
        halves.read(true);
        Check.due("the last of 2000 bytes is less", -1, halves.compare(1, 2));
        Check.due("the last of 2000 bytes is greater", 1, halves.compare(2, 1));
    }
}

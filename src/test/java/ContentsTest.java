/** Promises 6 and 9: number and compare. */
public final class ContentsTest {
    public static void main(String[] args) {
        numbers();
        noNumbers();
        wrongNodes();
        numberOfBefore();
        orders();
        ordersOfConstructed();
        orderOfBefore();
        Check.finish();
    }

    private static void numbers() {
        number("00", 0);
        number("05", 5);
        number("7f", 127);
        number("80", -128);
        number("ff", -1);
        number("00 80", 128);
        number("00 ff", 255);
        number("01 00", 256);
        number("7f ff", 32767);
        number("80 00", -32768);
        number("ff 7f", -129);
        number("ff 00", -256);
        number("80 80", -32640);
        number("01 02 03 04 05 06 07", 0x01020304050607L);
        number("7f ff*7", Long.MAX_VALUE);
        number("80 00*7", Long.MIN_VALUE);
        number("00 80 00*6", 0x0080000000000000L);
        number("ff 7f ff*6", -0x0080000000000001L);
        RuleReader other = Check.reading("df 81 00 02 fe 0c");
        Check.due("number whatever the identifier", -500, other.number(0));
    }

    private static String valueOf(String contents) {
        return "04 " + Integer.toHexString(Check.bytes(contents).length) + " " + contents;
    }

    private static void number(String contents, long want) {
        RuleReader x = Check.reading(valueOf(contents));
        Check.due("number of " + contents, want, x.number(0));
        Check.due("number of " + contents + " again", want, x.number(0));
    }

    private static void noNumbers() {
        String[] all = {"", "00 00", "00 05", "00 7f", "ff 80", "ff ff", "ff fe", "00 00 80", "ff ff 7f",
            "01 00*8", "00 80 00*7", "00 ff*8", "80 00*8", "00 00*7", "ff ff*7", "ff 80 00*6", "00 7f ff*6", "01 00*100"};
        for (String contents : all) {
            RuleReader x = Check.reading(valueOf(contents));
            Check.arithmetic("number of " + contents, () -> x.number(0));
            Check.due("nodes", 1, x.count(1));
        }
    }

    private static void wrongNodes() {
        RuleReader x = Check.reading("30 0b 02 01 05 30 00 04 00 02 02 00 05");
        Check.unsupported("number of a constructed one", () -> x.number(0));
        Check.due("number of one within", 5, x.number(1));
        Check.unsupported("number of an empty constructed one", () -> x.number(2));
        Check.arithmetic("number of an empty one", () -> x.number(3));
        Check.arithmetic("number of one too long", () -> x.number(4));
        RuleReader y = Check.reading("30 80 02 01 05 00 00");
        Check.unsupported("number of an open one", () -> y.number(0));
        for (int n : new int[] {-1, 5, Integer.MIN_VALUE, Integer.MAX_VALUE}) {
            Check.range("number(" + n + ")", () -> x.number(n));
            Check.range("compare(" + n + ", 0)", () -> x.compare(n, 0));
            Check.range("compare(0, " + n + ")", () -> x.compare(0, n));
            Check.range("compare(" + n + ", " + n + ")", () -> x.compare(n, n));
        }
    }

    private static void numberOfBefore() {
        RuleReader x = Check.reading("30 04 02 02 12 34");
        Check.load(x, Check.bytes("30 04 02 02 56 78"));
        Check.due("number of the bytes that were read", 0x1234, x.number(1));
        x.end(0);
        Check.due("number with the tape empty", 0x1234, x.number(1));
        x.wrap(0, 4, false);
        Check.due("number with the tape wrapped", 0x1234, x.number(1));
        Check.due("read anew", 1, x.read(true));
        Check.arithmetic("number read anew", () -> x.number(0));
    }

    private static void orders() {
        order("05", "05", 0);
        order("05", "06", -1);
        order("7f", "80", -1);
        order("00", "ff", -1);
        order("01 ff", "02", -1);
        order("01", "01 00", 0);
        order("01", "01 00 00 00", 0);
        order("01", "01 00 01", -1);
        order("", "", 0);
        order("", "00", 0);
        order("", "00 00 00", 0);
        order("", "00 01", -1);
        order("01 02 03", "01 02 04", -1);
        order("00*100 01", "00*100 02", -1);
        order("00*120", "00*2", 0);
        order("00*119 01", "00*2", 1);
    }

    private static void order(String first, String second, int want) {
        int length = Check.bytes(first).length + Check.bytes(second).length + 4;
        String opening = length < 128 ? "30 " : "30 81 ";
        RuleReader x = Check.reading(opening + Integer.toHexString(length) + " "
            + valueOf(first) + " " + valueOf(second));
        Check.due("compare " + first + " with " + second, want, x.compare(1, 2));
        Check.due("compare " + second + " with " + first, -want, x.compare(2, 1));
        Check.due("compare " + first + " with itself", 0, x.compare(1, 1));
    }

    private static void ordersOfConstructed() {
        RuleReader x = Check.reading("30 0d 30 80 02 01 05 00 00 04 04 02 01 05 00");
        Check.due("compare an open one, without its end", 0, x.compare(1, 3));
        RuleReader y = Check.reading("30 80 30 80 02 01 05 00 00 04 05 02 01 05 00 01 00 00");
        Check.due("compare an open one, what is behind it is not its own", -1, y.compare(1, 3));
        Check.due("compare the outermost with one within", 1, y.compare(0, 1));
        Check.due("compare with itself", 0, y.compare(0, 0));
    }

    private static void orderOfBefore() {
        RuleReader x = Check.reading("30 06 02 01 05 02 01 06");
        Check.load(x, Check.bytes("30 06 02 01 07 02 01 06"));
        Check.due("compare the bytes that were read", -1, x.compare(1, 2));
        x.read(true);
        Check.due("compare the bytes read anew", 1, x.compare(1, 2));
    }
}

/** Promises 7 and 8: each sentence that names an edge has a test of its own. */
public final class WriteTest {
    private static final int GREATEST = Integer.MAX_VALUE;

    public static void main(String[] args) {
        String promise = "Promise 7";
        Check.sentence(promise, "THE TAPE becomes a VALUE of class c", WriteTest::wrapClasses);
        Check.sentence(promise, "number k (0 .. 2^31 - 1)", WriteTest::wrapNumbers);
        Check.sentence(promise, "with what it was, any bytes, as contents", WriteTest::wrapAnyBytes);
        Check.sentence(promise, "STRICT in its length", WriteTest::wrapLengths);
        Check.sentence(promise, "it would have more than 4096: IndexOutOfBoundsException", WriteTest::wrapTooMuch);
        Check.sentence(promise, "Answers its length.", WriteTest::wrapAnswers);
        promise = "Promise 8";
        Check.sentence(promise, "THE TAPE gets a VALUE behind it", WriteTest::addBehind);
        Check.sentence(promise, "class c, number k, not constructed", WriteTest::addIdentifiers);
        Check.sentence(promise, "x as a number with sign in as few bytes as can be", WriteTest::addNumbers);
        Check.sentence(promise, "x as a number with sign in as few bytes as can be", WriteTest::addAndNumber);
        Check.sentence(promise, "more than 4096: likewise", WriteTest::addTooMuch);
        Check.sentence(promise, "Answers its length.", WriteTest::addAnswers);
        Check.finish();
    }

    private static void wrapped(String text, int c, int k, boolean constructed, String want) {
        RuleReader x = Check.holding(text);
        Check.due("wrap to " + want, Check.bytes(want).length, x.wrap(c, k, constructed));
        Check.tape("wrap to " + want, x, want);
    }

    private static void wrapClasses() {
        wrapped("02 01 05", 0, 16, true, "30 03 02 01 05");
        wrapped("02 01 05", 0, 16, false, "10 03 02 01 05");
        wrapped("02 01 05", 1, 16, true, "70 03 02 01 05");
        wrapped("02 01 05", 1, 16, false, "50 03 02 01 05");
        wrapped("02 01 05", 2, 16, true, "b0 03 02 01 05");
        wrapped("02 01 05", 2, 16, false, "90 03 02 01 05");
        wrapped("02 01 05", 3, 16, true, "f0 03 02 01 05");
        wrapped("02 01 05", 3, 16, false, "d0 03 02 01 05");
        for (int c : new int[] {-1, 4, 5, 64, -64, Integer.MIN_VALUE, GREATEST}) {
            RuleReader x = Check.holding("01 02");
            Check.range("wrap of class " + c, () -> x.wrap(c, 0, true));
            Check.range("wrap of class " + c, () -> x.wrap(c, GREATEST, false));
            Check.range("wrap of class " + c + " and number -1", () -> x.wrap(c, -1, false));
            Check.tape("wrap that was refused", x, "01 02");
        }
    }

    private static void wrapNumbers() {
        wrapped("", 0, 0, false, "00 00");
        wrapped("", 3, 0, true, "e0 00");
        wrapped("", 0, 1, false, "01 00");
        wrapped("02 01 05", 1, 30, false, "5e 03 02 01 05");
        wrapped("ff", 2, 31, true, "bf 1f 01 ff");
        wrapped("ff", 0, 32, false, "1f 20 01 ff");
        wrapped("ff", 3, 127, false, "df 7f 01 ff");
        wrapped("", 3, 128, true, "ff 81 00 00");
        wrapped("", 0, 129, false, "1f 81 01 00");
        wrapped("", 0, 16383, false, "1f ff 7f 00");
        wrapped("", 0, 16384, false, "1f 81 80 00 00");
        wrapped("", 0, 2097151, false, "1f ff ff 7f 00");
        wrapped("", 0, 2097152, false, "1f 81 80 80 00 00");
        wrapped("", 0, 268435455, false, "1f ff ff ff 7f 00");
        wrapped("", 0, 268435456, false, "1f 81 80 80 80 00 00");
        wrapped("", 0, GREATEST - 1, false, "1f 87 ff ff ff 7e 00");
        wrapped("", 0, GREATEST, false, "1f 87 ff ff ff 7f 00");
        for (int k : new int[] {-1, -2, -31, -128, Integer.MIN_VALUE}) {
            RuleReader x = Check.holding("01 02");
            Check.range("wrap of number " + k, () -> x.wrap(0, k, true));
            Check.range("wrap of number " + k, () -> x.wrap(3, k, false));
            Check.tape("wrap that was refused", x, "01 02");
        }
    }

    private static void wrapAnyBytes() {
        wrapped("", 0, 16, true, "30 00");
        wrapped("00", 0, 16, true, "30 01 00");
        wrapped("00 00", 0, 16, true, "30 02 00 00");
        wrapped("07 07 07", 0, 16, true, "30 03 07 07 07");
        wrapped("ff 80 1f", 0, 4, false, "04 03 ff 80 1f");
        wrapped("30 80 00", 2, 0, true, "a0 03 30 80 00");
        RuleReader x = Check.holding("07 07 07");
        x.wrap(0, 16, true);
        Check.unsupported("read of what holds no values", () -> x.read(false));
        x.wrap(0, 4, false);
        Check.due("read of any bytes", 1, x.read(true));
        RuleReader full = Check.full(4092);
        long first = full.word(0);
        long middle = full.word(2000);
        long last = full.word(4084);
        full.wrap(0, 4, false);
        Check.due("the header", 0x04820ffcL, full.word(0) >>> 32);
        Check.due("the first bytes of many", first, full.word(4));
        Check.due("bytes in the middle of many", middle, full.word(2004));
        Check.due("the last bytes of many", last, full.word(4088));
        RuleReader nodes = Check.reading("02 01 05");
        nodes.wrap(0, 16, true);
        Check.due("the nodes are what they were", 1, nodes.count(1));
        Check.due("the nodes are what they were", 5, nodes.number(0));
        Check.due("read of what was wrapped", 2, nodes.read(true));
        Check.due("what was wrapped", 5, nodes.number(1));
    }

    private static void wrapLengths() {
        wrapped("", 0, 4, false, "04 00");
        wrapped("07", 0, 4, false, "04 01 07");
        wrapped("07*126", 0, 4, false, "04 7e 07*126");
        wrapped("07*127", 0, 4, false, "04 7f 07*127");
        wrapped("07*128", 0, 4, false, "04 81 80 07*128");
        wrapped("07*129", 0, 4, false, "04 81 81 07*129");
        wrapped("07*254", 0, 4, false, "04 81 fe 07*254");
        wrapped("07*255", 0, 4, false, "04 81 ff 07*255");
        wrapped("07*256", 0, 4, false, "04 82 01 00 07*256");
        wrapped("07*257", 0, 4, false, "04 82 01 01 07*257");
        wrapped("07*1000 08", 0, 4, false, "04 82 03 e9 07*1000 08");
        wrapped("01 02 03 07*59", 0, 4, false, "04 3e 01 02 03 07*59");
        wrapped("01 02 03 07*61", 0, 4, false, "04 40 01 02 03 07*61");
        for (int size : new int[] {0, 127, 128, 255, 256, 4000}) {
            RuleReader x = Check.holding("aa*" + size);
            x.wrap(1, 1000, false);
            Check.due("read(true) of " + size + " that were wrapped", 1, x.read(true));
            Check.due("how many they are", size, x.node(0, 5));
        }
        RuleReader x = new RuleReader();
        for (int i = 1; i <= 100; i++) {
            x.wrap(0, 16, true);
        }
        Check.due("wrapped a hundred times", 0x3081e93081e63081L, x.word(0));
        Check.due("wrapped a hundred times: length", 236, x.count(0));
    }

    private static void wrapTooMuch() {
        for (int k : new int[] {0, 30, 31, 127, 128, 16383, 16384, 2097151, 2097152, 268435455, 268435456, GREATEST}) {
            int identifier = k < 31 ? 1 : k < 128 ? 2 : k < 16384 ? 3 : k < 2097152 ? 4 : k < 268435456 ? 5 : 6;
            int most = 4096 - 3 - identifier;
            RuleReader x = Check.full(most);
            long first = x.word(0);
            long last = x.word(most - 8);
            Check.due("wrap to 4096", 4096, x.wrap(1, k, true));
            Check.due("the length", 4096, x.count(0));
            Check.due("the first bytes", first, x.word(identifier + 3));
            Check.due("the last bytes", last, x.word(4088));
            Check.bounds("wrap of a full tape", () -> x.wrap(1, k, true));
            Check.due("the length behind it", 4096, x.count(0));
            Check.due("the last bytes behind it", last, x.word(4088));
            x.end(most + 1);
            Check.bounds("wrap to 4097", () -> x.wrap(1, k, false));
            Check.due("the length behind it", most + 1, x.count(0));
            Check.due("the first bytes behind it", first, x.word(identifier + 3));
        }
    }

    private static void wrapAnswers() {
        RuleReader x = new RuleReader();
        Check.due("wrap of none", 2, x.wrap(0, 0, false));
        Check.due("wrap of 2", 5, x.wrap(0, 31, false));
        Check.due("wrap of 5", 12, x.wrap(0, GREATEST, true));
        Check.due("wrap of 12", 14, x.wrap(3, 30, true));
        Check.due("the length", 14, x.count(0));
        RuleReader y = Check.holding("aa*127");
        Check.due("wrap of 127", 129, y.wrap(0, 4, false));
        Check.due("wrap of 129", 132, y.wrap(0, 4, false));
        RuleReader z = Check.holding("aa*256");
        Check.due("wrap of 256", 260, z.wrap(0, 4, false));
    }

    private static void added(long x, String want) {
        RuleReader r = Check.holding("aa");
        Check.due("add " + x, 1 + Check.bytes(want).length, r.add(0, 2, x));
        Check.tape("add " + x, r, "aa " + want);
    }

    private static void addBehind() {
        RuleReader x = new RuleReader();
        x.add(0, 2, 5);
        Check.tape("add to none", x, "02 01 05");
        x.add(0, 2, 6);
        Check.tape("add to one", x, "02 01 05 02 01 06");
        x.end(4);
        x.add(0, 2, -300);
        Check.tape("add to what is no value", x, "02 01 05 02 02 02 fe d4");
        RuleReader nodes = Check.reading("02 01 05");
        nodes.add(0, 2, 6);
        Check.due("the nodes are what they were", 1, nodes.count(1));
        Check.nodeIs(nodes, 0, 0, 2, 0, 0, 2, 1, -1, 0);
        Check.due("the nodes are what they were", 5, nodes.number(0));
        RuleReader grown = Check.holding("bb*63");
        grown.add(1, 3, 0x0102030405L);
        Check.tape("add across 64", grown, "bb*63 43 05 01 02 03 04 05");
    }

    private static void addIdentifiers() {
        RuleReader x = new RuleReader();
        x.add(0, 0, 1);
        x.add(3, 30, 2);
        x.add(1, 31, 3);
        x.add(2, 16384, 4);
        x.add(0, GREATEST, 5);
        Check.tape("add", x, "00 01 01 de 01 02 5f 1f 01 03 9f 81 80 00 01 04 1f 87 ff ff ff 7f 01 05");
        RuleReader y = new RuleReader();
        y.add(0, 127, 0);
        y.add(1, 128, 0);
        y.add(2, 16383, 0);
        y.add(3, 2097151, 0);
        Check.tape("add", y, "1f 7f 01 00 5f 81 00 01 00 9f ff 7f 01 00 df ff ff 7f 01 00");
        RuleReader z = Check.holding("01 02");
        for (int c : new int[] {-1, 4, 5, 64, -64, Integer.MIN_VALUE, GREATEST}) {
            Check.range("add of class " + c, () -> z.add(c, 0, 0));
            Check.range("add of class " + c + " and number -1", () -> z.add(c, -1, 0));
        }
        for (int k : new int[] {-1, -2, -31, -128, Integer.MIN_VALUE}) {
            Check.range("add of number " + k, () -> z.add(0, k, 0));
            Check.range("add of number " + k, () -> z.add(3, k, Long.MIN_VALUE));
        }
        Check.tape("add that was refused", z, "01 02");
    }

    private static void addNumbers() {
        added(0, "02 01 00");
        added(1, "02 01 01");
        added(-1, "02 01 ff");
        added(255, "02 02 00 ff");
        added(256, "02 02 01 00");
        added(-256, "02 02 ff 00");
        added(-257, "02 02 fe ff");
        for (int width = 1; width <= 7; width++) {
            String more = " 00*" + (width - 1);
            String less = " ff*" + (width - 1);
            long limit = 1L << 8 * width - 1;
            added(limit - 1, "02 0" + width + " 7f" + less);
            added(limit, "02 0" + (width + 1) + " 00 80" + more);
            added(-limit, "02 0" + width + " 80" + more);
            added(-limit - 1, "02 0" + (width + 1) + " ff 7f" + less);
        }
        added(Long.MAX_VALUE, "02 08 7f ff*7");
        added(Long.MIN_VALUE, "02 08 80 00*7");
        added(0x0123456789abcdefL, "02 08 01 23 45 67 89 ab cd ef");
    }

    /** What add writes, read and number give back: number takes only the shortest. */
    private static void addAndNumber() {
        for (int shift = 0; shift < 64; shift++) {
            for (int off = -1; off <= 1; off++) {
                back((1L << shift) + off);
                back(-(1L << shift) + off);
            }
        }
    }

    private static void back(long value) {
        RuleReader x = new RuleReader();
        x.add(2, 7, value);
        Check.due("read of what was added", 1, x.read(true));
        Check.due("number of what was added", value, x.number(0));
    }

    private static void addTooMuch() {
        RuleReader x = Check.full(4093);
        Check.bounds("add to 4097", () -> x.add(0, 2, 128));
        Check.bounds("add to 4097 by the number", () -> x.add(0, 31, 0));
        Check.due("the length behind it", 4093, x.count(0));
        Check.due("add to 4096", 4096, x.add(0, 2, -1));
        Check.due("the bytes", 0x0201ffL, x.word(4093) >>> 40);
        Check.bounds("add to a full tape", () -> x.add(0, 2, 0));
        Check.due("the length behind it", 4096, x.count(0));
        Check.due("the bytes behind it", 0x0201ffL, x.word(4093) >>> 40);
        x.end(4081);
        Check.due("add the longest to 4096", 4096, x.add(3, GREATEST, Long.MIN_VALUE));
        x.end(4082);
        Check.bounds("add the longest to 4097", () -> x.add(3, GREATEST, Long.MIN_VALUE));
        Check.due("the length behind it", 4082, x.count(0));
        for (int width = 1; width <= 8; width++) {
            long value = Long.MIN_VALUE >> 8 * (8 - width);
            RuleReader y = Check.full(4096 - 2 - width);
            Check.due("add " + value + " to 4096", 4096, y.add(0, 0, value));
            y.end(4096 - 1 - width);
            Check.bounds("add " + value + " to 4097", () -> y.add(0, 0, value));
            Check.due("the length behind it", 4096 - 1 - width, y.count(0));
        }
    }

    private static void addAnswers() {
        RuleReader x = new RuleReader();
        Check.due("add", 3, x.add(0, 0, 1));
        Check.due("add", 6, x.add(3, 30, 2));
        Check.due("add", 10, x.add(1, 31, 3));
        Check.due("add", 16, x.add(2, 16384, 4));
        Check.due("add", 24, x.add(0, GREATEST, 5));
        Check.due("add", 39, x.add(0, GREATEST, Long.MAX_VALUE));
        Check.due("the length", 39, x.count(0));
    }
}

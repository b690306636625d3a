/** Promises 7 and 8: wrap and add. */
public final class WriteTest {
    private static final int GREATEST = Integer.MAX_VALUE;

    public static void main(String[] args) {
        wrapIdentifiers();
        wrapLengths();
        wrapToTheEdge();
        wrapWrong();
        addNumbers();
        addIdentifiers();
        addToTheEdge();
        addWrong();
        nodesStay();
        Check.finish();
    }

    private static void wrapped(String text, int c, int k, boolean constructed, String want) {
        RuleReader x = Check.holding(text);
        Check.due("wrap to " + want, Check.bytes(want).length, x.wrap(c, k, constructed));
        Check.tape("wrap to " + want, x, want);
    }

    private static void wrapIdentifiers() {
        wrapped("", 0, 0, false, "00 00");
        wrapped("", 0, 5, false, "05 00");
        wrapped("02 01 05", 0, 16, true, "30 03 02 01 05");
        wrapped("02 01 05", 1, 30, false, "5e 03 02 01 05");
        wrapped("ff", 2, 31, true, "bf 1f 01 ff");
        wrapped("ff", 3, 127, false, "df 7f 01 ff");
        wrapped("", 3, 128, true, "ff 81 00 00");
        wrapped("", 0, 16383, false, "1f ff 7f 00");
        wrapped("", 0, 16384, false, "1f 81 80 00 00");
        wrapped("", 0, 2097151, false, "1f ff ff 7f 00");
        wrapped("", 0, 2097152, false, "1f 81 80 80 00 00");
        wrapped("", 0, 268435455, false, "1f ff ff ff 7f 00");
        wrapped("", 0, 268435456, false, "1f 81 80 80 80 00 00");
        wrapped("", 0, GREATEST, false, "1f 87 ff ff ff 7f 00");
        wrapped("07 07 07", 0, 16, true, "30 03 07 07 07");
    }

    private static void wrapLengths() {
        wrapped("07*127", 0, 4, false, "04 7f 07*127");
        wrapped("07*128", 0, 4, false, "04 81 80 07*128");
        wrapped("07*255", 0, 4, false, "04 81 ff 07*255");
        wrapped("07*256", 0, 4, false, "04 82 01 00 07*256");
        wrapped("07*1000 08", 0, 4, false, "04 82 03 e9 07*1000 08");
        wrapped("01 02 03 07*59", 0, 4, false, "04 3e 01 02 03 07*59");
        wrapped("01 02 03 07*61", 0, 4, false, "04 40 01 02 03 07*61");
        RuleReader x = new RuleReader();
        for (int i = 1; i <= 100; i++) {
            x.wrap(0, 16, true);
        }
        Check.due("wrapped a hundred times", 0x3081e93081e63081L, x.word(0));
        Check.due("wrapped a hundred times: length", 236, x.count(0));
    }

    /** A tape of so many bytes, 20 to 4096. */
    private static RuleReader full(int length) {
        RuleReader x = new RuleReader();
        for (int i = 0; i < 204; i++) {
            x.feed(0x01020304, -1, i, -1, 0x05060708);
        }
        x.end(length - 20);
        x.feed(0x01020304, -1, -1, -1, 0x05060708);
        return x;
    }

    private static void wrapToTheEdge() {
        for (int k : new int[] {0, 30, 31, 127, 128, 16384, GREATEST}) {
            int identifier = k < 31 ? 1 : k < 128 ? 2 : k < 16384 ? 3 : k < 2097152 ? 4 : 6;
            int most = 4096 - 3 - identifier;
            RuleReader x = full(most);
            Check.due("as long as can be wrapped", most, x.count(0));
            long first = x.word(0);
            long last = x.word(most - 8);
            Check.due("wrap to 4096", 4096, x.wrap(1, k, true));
            Check.due("wrap to 4096: length", 4096, x.count(0));
            Check.due("wrap to 4096: first bytes", first, x.word(identifier + 3));
            Check.due("wrap to 4096: last bytes", last, x.word(4088));
            Check.bounds("wrap beyond 4096", () -> x.wrap(1, k, true));
            Check.due("wrap beyond 4096 changes nothing", last, x.word(4088));
            Check.due("wrap beyond 4096 changes nothing", 4096, x.count(0));
            x.end(most + 1);
            Check.bounds("wrap to 4097", () -> x.wrap(1, k, false));
            Check.due("wrap to 4097 changes nothing", most + 1, x.count(0));
            Check.due("wrap to 4097 changes nothing", first, x.word(identifier + 3));
        }
    }

    private static void wrapWrong() {
        RuleReader x = Check.holding("01 02");
        for (int c : new int[] {-1, 4, 64, Integer.MIN_VALUE, GREATEST}) {
            Check.range("wrap of class " + c, () -> x.wrap(c, 0, true));
            Check.range("wrap of class " + c, () -> x.wrap(c, -1, false));
            Check.range("add of class " + c, () -> x.add(c, 0, 0));
        }
        for (int k : new int[] {-1, -31, Integer.MIN_VALUE}) {
            Check.range("wrap of number " + k, () -> x.wrap(0, k, true));
            Check.range("add of number " + k, () -> x.add(0, k, 0));
        }
        Check.tape("wrap that throws", x, "01 02");
        RuleReader y = full(4096);
        Check.range("wrap of a full tape, wrong class", () -> y.wrap(4, 0, true));
        Check.range("wrap of a full tape, wrong number", () -> y.wrap(0, -1, true));
        Check.range("add to a full tape, wrong class", () -> y.add(-1, 0, 0));
        Check.range("add to a full tape, wrong number", () -> y.add(0, -1, 0));
    }

    private static void added(long x, String want) {
        RuleReader r = Check.holding("aa");
        Check.due("add " + x, 1 + Check.bytes(want).length, r.add(0, 2, x));
        Check.tape("add " + x, r, "aa " + want);
    }

    private static void addNumbers() {
        added(0, "02 01 00");
        added(5, "02 01 05");
        added(-1, "02 01 ff");
        added(127, "02 01 7f");
        added(128, "02 02 00 80");
        added(-128, "02 01 80");
        added(-129, "02 02 ff 7f");
        added(255, "02 02 00 ff");
        added(32767, "02 02 7f ff");
        added(32768, "02 03 00 80 00");
        added(-32768, "02 02 80 00");
        added(-32769, "02 03 ff 7f ff");
        added(0x7fffffffL, "02 04 7f ff ff ff");
        added(0x80000000L, "02 05 00 80 00 00 00");
        added(-0x80000000L, "02 04 80 00 00 00");
        added(0x007fffffffffffffL, "02 07 7f ff ff ff ff ff ff");
        added(0x0080000000000000L, "02 08 00 80 00 00 00 00 00 00");
        added(Long.MAX_VALUE, "02 08 7f ff ff ff ff ff ff ff");
        added(Long.MIN_VALUE, "02 08 80 00 00 00 00 00 00 00");
        for (int shift = 0; shift < 64; shift++) {
            for (int off = -1; off <= 1; off++) {
                back((1L << shift) + off);
                back(-(1L << shift) + off);
            }
        }
    }

    /** What add writes, read and number give back: number takes only the shortest. */
    private static void back(long value) {
        RuleReader x = new RuleReader();
        x.add(2, 7, value);
        Check.due("read of what was added", 1, x.read(true));
        Check.due("number of what was added", value, x.number(0));
    }

    private static void addIdentifiers() {
        RuleReader x = new RuleReader();
        Check.due("add", 3, x.add(0, 0, 1));
        Check.due("add", 6, x.add(3, 30, 2));
        Check.due("add", 10, x.add(1, 31, 3));
        Check.due("add", 16, x.add(2, 16384, 4));
        Check.due("add", 24, x.add(0, GREATEST, 5));
        Check.tape("add", x, "00 01 01 de 01 02 5f 1f 01 03 9f 81 80 00 01 04 1f 87 ff ff ff 7f 01 05");
    }

    private static void addToTheEdge() {
        RuleReader x = full(4093);
        Check.bounds("add to 4097", () -> x.add(0, 2, 128));
        Check.due("add to 4097 changes nothing", 4093, x.count(0));
        Check.due("add to 4096", 4096, x.add(0, 2, -1));
        Check.due("add to 4096: bytes", 0x0201ffL, x.word(4093) >>> 40);
        Check.bounds("add to a full tape", () -> x.add(0, 2, 0));
        Check.due("add to a full tape changes nothing", 4096, x.count(0));
        x.end(4081);
        Check.due("add the longest to 4096", 4096, x.add(3, GREATEST, Long.MIN_VALUE));
        x.end(4082);
        Check.bounds("add the longest to 4097", () -> x.add(3, GREATEST, Long.MIN_VALUE));
        Check.due("add the longest to 4097 changes nothing", 4082, x.count(0));
    }

    private static void addWrong() {
        RuleReader x = Check.holding("01 02");
        Check.range("add of class 4", () -> x.add(4, 2, 1));
        Check.range("add of number -1", () -> x.add(0, -1, 1));
        Check.tape("add that throws", x, "01 02");
    }

    private static void nodesStay() {
        RuleReader x = Check.reading("02 01 05");
        x.wrap(0, 16, true);
        x.add(0, 2, 6);
        Check.due("wrap and add leave the nodes", 1, x.count(1));
        Check.nodeIs(x, 0, 0, 2, 0, 0, 2, 1, -1, 0);
        Check.due("wrap and add leave the nodes", 5, x.number(0));
        x.end(5);
        Check.due("read of what was wrapped", 2, x.read(true));
        Check.due("read of what was wrapped", 5, x.number(1));
    }
}

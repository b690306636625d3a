import java.util.function.Consumer;

/** "Terms", in the document's order: each sentence that names an edge has a test of its own. */
public final class TermsTest {
    private static final Class<IllegalArgumentException> RANGE = IllegalArgumentException.class;
    private static final Class<IndexOutOfBoundsException> BOUNDS = IndexOutOfBoundsException.class;
    private static final Class<UnsupportedOperationException> UNSUPPORTED = UnsupportedOperationException.class;
    private static final Class<ArithmeticException> ARITHMETIC = ArithmeticException.class;

    public static void main(String[] args) {
        edge("THE TAPE has at most 4096 bytes.", TermsTest::fullTape);
        edge("A VALUE is identifier, length, contents.", TermsTest::missingParts);
        edge("class (0 .. 3) times 64, 32 if constructed", TermsTest::classes);
        edge("and the number below 31", TermsTest::shortNumbers);
        edge("else 31 and the number (31 or more, else it is none)", TermsTest::longNumbers);
        edge("in sevens of bits, the highest first", TermsTest::sevens);
        edge("not beginning with 0", TermsTest::numbersBeginningWithZero);
        edge("128 added to all but the last", TermsTest::numbersWithoutEnd);
        edge("numbers are below 2^31, those that are not are told as -1", TermsTest::greatNumbers);
        edge("Length: below 128", TermsTest::shortLengths);
        edge("or 128 and how many bytes follow with it (1 to 127", TermsTest::lengthsOfLengths);
        edge("the highest first, also beginning with 0)", TermsTest::lengthsBeginningWithZero);
        edge("A VALUE is identifier, length, contents.", TermsTest::lengthsTooGreat);
        edge("128 alone (constructed ones)", TermsTest::openPrimitives);
        edge("VALUES up to two bytes 0", TermsTest::openEnds);
        edge("where one would begin", TermsTest::zerosElsewhere);
        edge("Contents: of constructed ones VALUES, to the end", TermsTest::contentsToTheEnd);
        edge("else any bytes", TermsTest::anyBytes);
        edge("At most 40 are one within another (the outermost one counts).", TermsTest::depth);
        edge("At most 40 are one within another (the outermost one counts).", TermsTest::depthOfOpenOnes);
        edge("STRICT: lengths are as short as can be", TermsTest::shortestLengths);
        edge("and none is 128 alone.", TermsTest::strictOpenOnes);
        edge("NODES are the VALUES that were read last", TermsTest::readLast);
        edge("numbered from 0 in the order in which they begin", TermsTest::order);
        edge("with their bytes as they were then", TermsTest::bytesOfThen);
        edge("none at first", TermsTest::noneAtFirst);
        edge("What is thrown, in this order: IllegalArgumentException: a number out of range; then as the call says.",
            TermsTest::orderOfThrowing);
        edge("A call that throws changes nothing, but as said.", TermsTest::refusedCalls);
        edge("A call that throws changes nothing, but as said.", TermsTest::refusedCallsOnFullTape);
        edge("A call that throws changes nothing, but as said.", TermsTest::refusedCallsOnNewObject);
        Check.finish();
    }

    private static void edge(String quote, Runnable test) {
        Check.sentence("Terms", quote, test);
    }

    private static String hex(int value) {
        return Integer.toHexString(value);
    }

    private static void fullTape() {
        Check.due("fed to 4096", 4096, Check.full(4076).feed(1, 2, 3, 4, 5));
        Check.due("added to 4096", 4096, Check.full(4093).add(0, 2, 0));
        Check.due("wrapped to 4096", 4096, Check.full(4092).wrap(0, 4, false));
        Check.bounds("fed to 4097", () -> Check.full(4077).feed(1, 2, 3, 4, 5));
        Check.bounds("added to 4097", () -> Check.full(4094).add(0, 2, 0));
        Check.bounds("wrapped to 4097", () -> Check.full(4093).wrap(0, 4, false));
        RuleReader x = Check.full(4096);
        Check.due("the length of a full tape", 4096, x.count(0));
        Check.due("the last byte of a full tape", 0x88, x.word(4095) >>> 56);
        Check.bounds("feed to a full tape", () -> x.feed(0, 0, 0, 0, 0));
        Check.bounds("add to a full tape", () -> x.add(0, 0, 0));
        Check.bounds("wrap of a full tape", () -> x.wrap(0, 0, false));
        Check.due("the length of a full tape", 4096, x.count(0));
    }

    private static void missingParts() {
        Readings.none("");
        Readings.none("04");
        Readings.none("24");
        Readings.none("00");
        Readings.none("1f 1f");
        Readings.none("04 01");
        Readings.none("04 81");
        Readings.none("04 82 01");
        // what is missing would be found in the value behind the one around it
        Readings.none("30 05 30 01 05 00 00");
        Readings.none("30 06 30 02 04 81 00 00");
        Readings.none("30 06 30 02 04 01 05 00");
        Readings.none("30 80 30 01 05 00 00 00 00");
        Readings.ok("04 00", 1);
        Readings.ok("00 00", 1);
    }

    private static void classes() {
        for (int c = 0; c <= 3; c++) {
            for (int k : new int[] {0, 1, 30}) {
                Check.nodeIs(Check.reading(hex(64 * c + k) + " 00"), 0, c, k, 0, 0, 2, 0, -1, 0);
                Check.nodeIs(Check.reading(hex(64 * c + 32 + k) + " 00"), 0, c, k, 1, 0, 2, 0, -1, 0);
            }
            Check.nodeIs(Check.reading(hex(64 * c + 31) + " 1f 00"), 0, c, 31, 0, 0, 3, 0, -1, 0);
            Check.nodeIs(Check.reading(hex(64 * c + 32 + 31) + " 1f 00"), 0, c, 31, 1, 0, 3, 0, -1, 0);
        }
    }

    private static void numberIs(String identifier, int want) {
        RuleReader x = Check.reading(identifier + " 01 aa");
        int length = Check.bytes(identifier).length;
        Check.due("the number of " + identifier, want, x.node(0, 1));
        Check.due("where the contents begin behind " + identifier, length + 1, x.node(0, 4));
        Check.due("how many they are behind " + identifier, 1, x.node(0, 5));
        Check.due("read(true) of " + identifier, 1, x.read(true));
    }

    private static void shortNumbers() {
        for (int k = 0; k <= 30; k++) {
            numberIs(hex(k), k);
            numberIs(hex(3 * 64 + k), k);
        }
        Readings.none("1f 00");
    }

    private static void longNumbers() {
        for (int k = 0; k <= 30; k++) {
            Readings.none("1f " + hex(k) + " 00");
        }
        Readings.none("3f 1e 00");
        Readings.none("df 1e 00");
        Readings.none("30 03 1f 1e 00");
        numberIs("1f 1f", 31);
        numberIs("1f 20", 32);
        numberIs("1f 7f", 127);
        Readings.ok("30 03 1f 1f 00", 2);
    }

    private static void sevens() {
        numberIs("1f 81 00", 128);
        numberIs("1f 81 01", 129);
        numberIs("1f 82 01", 257);
        numberIs("1f ff 7f", 16383);
        numberIs("1f 81 80 00", 16384);
        numberIs("1f 81 82 03", 16384 + 2 * 128 + 3);
        numberIs("1f ff ff 7f", 2097151);
        numberIs("1f 81 80 80 00", 2097152);
        numberIs("1f ff ff ff 7f", 268435455);
        numberIs("1f 81 80 80 80 00", 268435456);
        numberIs("1f 81 82 83 84 05", 0x10000000 + 2 * 2097152 + 3 * 16384 + 4 * 128 + 5);
    }

    private static void numbersBeginningWithZero() {
        Readings.none("1f 80 00");
        Readings.none("1f 80 1f 00");
        Readings.none("1f 80 7f 00");
        Readings.none("1f 80 81 00 00");
        Readings.none("1f 80 81 1f 00");
        Readings.none("1f 80 80 1f 00");
        Readings.none("3f 80 1f 00");
        Readings.none("1f 80 ff*4 7f 00");
        Readings.none("30 04 1f 80 1f 00");
        numberIs("1f 81 80 80 01", 2097153);
        numberIs("1f 81 00", 128);
    }

    private static void numbersWithoutEnd() {
        Readings.none("1f");
        Readings.none("1f 81");
        Readings.none("1f 81 80");
        Readings.none("1f 81 80 00");
        Readings.none("1f ff*20");
        Readings.none("1f ff*20 7f");
        Readings.none("30 02 1f 81");
        Readings.none("30 02 1f 81 00 00");
        Readings.none("30 03 1f 81 80 00 00");
        Readings.none("30 01 1f 1f 00");
        Readings.none("30 80 1f 81 80");
        // it would end in the value behind the one around it
        Readings.none("30 06 30 02 1f 81 01 00");
        Readings.none("30 05 30 01 1f 1f 00");
        Readings.ok("30 04 1f 81 00 00", 2);
        numberIs("1f 81 80 00", 16384);
    }

    private static void greatNumbers() {
        numberIs("1f 87 ff ff ff 7e", Integer.MAX_VALUE - 1);
        numberIs("1f 87 ff ff ff 7f", Integer.MAX_VALUE);
        numberIs("1f 88 80 80 80 00", -1);
        numberIs("1f 88 80 80 80 01", -1);
        numberIs("1f 8f ff ff ff 7e", -1);
        numberIs("1f 8f ff ff ff 7f", -1);
        for (String beyond : new String[] {"90 80*3", "a0 80*3", "c0 80*3", "81 80*4", "81 80*5", "81 80*7",
            "81 80*8", "82 80*8", "81 80*9", "81 80*17", "81 80*18", "81 80*36", "ff*8", "ff*9", "ff*10", "ff*100"}) {
            for (String last : new String[] {"00", "05", "1e", "1f", "7f"}) {
                numberIs("1f " + beyond + " " + last, -1);
            }
        }
        RuleReader x = Check.holding("df ff*3500 7f 01 05");
        Check.due("read of a number of 3501 sevens", 1, x.read(true));
        Check.nodeIs(x, 0, 3, -1, 0, 0, 3503, 1, -1, 0);
        RuleReader y = Check.reading("3f 88 80 80 80 00 07 1f 90 80 80 80 1f 00");
        Check.nodeIs(y, 0, 0, -1, 1, 0, 7, 7, -1, 1);
        Check.nodeIs(y, 1, 0, -1, 0, 7, 14, 0, 0, 0);
    }

    private static void contentsAre(String header, int size) {
        String text = header + " aa*" + size;
        RuleReader x = Check.reading(text);
        Check.nodeIs(x, 0, 0, 4, 0, 0, Check.bytes(header).length, size, -1, 0);
        Readings.none(text + " aa");
        if (size > 0) {
            Readings.none(header + " aa*" + (size - 1));
        }
    }

    private static void shortLengths() {
        for (int size = 0; size <= 127; size++) {
            contentsAre("04 " + hex(size), size);
        }
    }

    private static void lengthsOfLengths() {
        for (int many = 1; many <= 127; many++) {
            String header = "04 " + hex(128 + many) + " 00*" + (many - 1) + " ";
            contentsAre(header + "00", 0);
            contentsAre(header + "01", 1);
            contentsAre(header + "7f", 127);
            contentsAre(header + "ff", 255);
            Readings.none("04 " + hex(128 + many) + " 00*" + (many - 1));
        }
    }

    private static void lengthsBeginningWithZero() {
        contentsAre("04 81 05", 5);
        contentsAre("04 82 01 02", 258);
        contentsAre("04 82 02 01", 513);
        contentsAre("04 82 00 05", 5);
        contentsAre("04 83 00 01 02", 258);
        contentsAre("04 84 00 00 01 02", 258);
        contentsAre("04 84 00 00 00 00", 0);
        contentsAre("04 85 00 00 00 01 02", 258);
        contentsAre("04 89 00*7 03 e8", 1000);
        contentsAre("04 ff 00*125 03 e8", 1000);
    }

    /** Lengths that are far too great, whose last bytes alone would be just right. */
    private static void lengthsTooGreat() {
        for (int many = 2; many <= 127; many++) {
            String opening = "04 " + hex(128 + many) + " ";
            Readings.none(opening + "01 00*" + (many - 2) + " 01 aa");
            Readings.none(opening + "01 00*" + (many - 1));
            Readings.none(opening + "80 00*" + (many - 2) + " 01 aa");
            Readings.none(opening + "ff*" + many + " aa");
        }
        for (int i = 2; i <= 9; i++) {
            Readings.none("04 8a 00*" + (9 - i) + " 01 00*" + (i - 1) + " 01 aa");
        }
        Readings.none("04 82 10 00 aa*4000");
        Readings.none("04 82 10 01 aa*4000");
        Readings.none("30 06 04 85 01 00 00 00 00");
    }

    private static void openPrimitives() {
        for (int c = 0; c <= 3; c++) {
            Readings.none(hex(64 * c + 4) + " 80 00 00");
            Readings.notStrict(hex(64 * c + 32 + 4) + " 80 00 00", 1);
        }
        Readings.none("1f 1f 80 00 00");
        Readings.none("04 80");
        Readings.none("00 80 00 00");
        Readings.none("30 04 04 80 00 00");
        Readings.none("30 80 04 80 00 00 00 00");
        Readings.notStrict("20 80 00 00", 1);
        Readings.notStrict("3f 1f 80 00 00", 1);
    }

    private static void openEnds() {
        Readings.notStrict("30 80 00 00", 1);
        Readings.notStrict("30 80 05 00 00 00", 2);
        Readings.notStrict("30 80 30 80 00 00 00 00", 2);
        Readings.notStrict("30 80 30 80 00 00 30 80 00 00 00 00", 3);
        Readings.notStrict("30 04 30 80 00 00", 2);
        Readings.none("30 80");
        Readings.none("30 80 00");
        Readings.none("30 80 00 00 00");
        Readings.none("30 80 00 00 00 00");
        Readings.none("30 80 05 00");
        Readings.none("30 80 05 00 00");
        Readings.none("30 80 30 80 00 00");
        Readings.none("30 80 30 80 00 00 00");
        // the zeros stand behind the end of the one around it
        Readings.none("30 02 30 80 00 00");
        Readings.none("30 03 30 80 00 00");
        Readings.none("30 04 30 80 05 00 00 00");
        Readings.none("30 05 30 80 05 00 00 00");
        Readings.none("30 80 30 02 30 80 00 00 00 00");
        Readings.none("30 06 30 02 30 80 00 00");
        Readings.none("30 07 30 03 30 80 00 00 00");
        Readings.none("30 08 30 04 30 80 05 00 00 00");
    }

    private static void zerosElsewhere() {
        Readings.notStrict("30 80 04 02 00 00 00 00", 2);
        Readings.notStrict("30 80 04 00 00 00", 2);
        Readings.notStrict("30 80 00 01 00 00 00", 2);
        Readings.notStrict("30 80 00 02 00 00 00 00", 2);
        Readings.notStrict("30 80 00 81 00 00 00", 2);
        Readings.notStrict("30 80 20 00 00 00", 2);
        Readings.notStrict("30 80 1f 81 00 00 00 00", 2);
        Readings.notStrict("30 80 04 83 00 00 01 aa 00 00", 2);
        // in one whose length is told two bytes 0 are a value like others
        Readings.notStrict("30 80 30 02 00 00 00 00", 3);
        Readings.ok("30 02 00 00", 2);
        Readings.ok("30 04 00 00 00 00", 3);
        Readings.none("30 80 00 01 00 00");
        Readings.none("30 80 04 02 00 00");
        Readings.none("30 80 01 00 00");
    }

    private static void contentsToTheEnd() {
        Readings.ok("30 00", 1);
        Readings.ok("30 02 05 00", 2);
        Readings.ok("30 05 05 00 04 01 aa", 3);
        Readings.ok("30 04 30 02 30 00", 3);
        Readings.none("30 01 05");
        Readings.none("30 01 00");
        Readings.none("30 03 05 00 05");
        Readings.none("30 03 05 00 00");
        Readings.none("30 04 05 00 04 01");
        Readings.none("30 04 05 00 04 01 aa");
        Readings.none("30 02 04 01 aa");
        Readings.none("30 03 04 02 05");
        Readings.none("30 04 30 03 05 00 05 00");
        Readings.none("30 04 30 01 05 00");
        Readings.none("30 02 1f 1f 00");
        // where it ends a value begins that one within it would reach into
        Readings.none("30 06 30 02 04 01 05 00");
        Readings.none("30 08 30 02 30 02 05 00 05 00");
        Readings.none("30 06 30 02 30 02 05 00");
        Readings.none("30 80 30 02 04 01 05 00 00 00");
        Readings.ok("30 06 30 02 04 00 05 00", 4);
    }

    private static void anyBytes() {
        Readings.ok("04 00", 1);
        Readings.ok("04 01 05", 1);
        Readings.ok("04 01 30", 1);
        Readings.ok("04 02 05 00", 1);
        Readings.ok("04 02 00 00", 1);
        Readings.ok("10 02 30 80", 1);
        Readings.ok("04 04 30 05 ff ff", 1);
        Readings.ok("30 05 04 03 1f 80 80", 2);
        for (int b = 0; b < 256; b++) {
            Readings.ok("04 01 " + hex(b), 1);
        }
    }

    private static void depth() {
        Readings.ok(Readings.lengthsWithin(39, "05 00"), 40);
        Readings.ok(Readings.lengthsWithin(39, "30 00"), 40);
        Readings.none(Readings.lengthsWithin(40, "05 00"));
        Readings.none(Readings.lengthsWithin(40, "30 00"));
        Readings.none(Readings.lengthsWithin(41, "05 00"));
        Readings.none(Readings.lengthsWithin(60, "05 00"));
        // such as stand beside one another do not count
        Readings.ok(Readings.lengthsWithin(38, "30 06 05 00 05 00 05 00"), 42);
        Readings.ok("30 78 " + "05 00 ".repeat(60), 61);
        String deep = Readings.lengthsWithin(38, "05 00");
        Readings.ok("30 81 9c " + deep + " " + deep, 79);
        Readings.none("30 81 9e " + deep + " " + Readings.lengthsWithin(39, "05 00"));
        Readings.none("30 81 9e " + Readings.lengthsWithin(39, "05 00") + " " + deep);
        RuleReader x = Check.reading(Readings.lengthsWithin(39, "05 00"));
        Check.nodeIs(x, 39, 0, 5, 0, 78, 80, 0, 38, 0);
    }

    private static void depthOfOpenOnes() {
        Readings.notStrict(Readings.within(40, "30 80", "00 00"), 40);
        Readings.none(Readings.within(41, "30 80", "00 00"));
        Readings.none(Readings.within(1000, "30 80", "00 00"));
        Readings.none("30 80 ".repeat(2000));
        // the fortieth may be ended, but hold nothing
        Readings.none("30 80 ".repeat(40) + "05 00 " + "00 00 ".repeat(40));
        Readings.notStrict("30 80 ".repeat(39) + "05 00 " + "00 00 ".repeat(39), 40);
        String deep = Readings.within(39, "30 80", "00 00");
        Readings.notStrict("30 80 " + deep + deep + "00 00", 79);
    }

    private static void shortestLengths() {
        Readings.ok("04 00", 1);
        Readings.notStrict("04 81 00", 1);
        Readings.notStrict("04 82 00 00", 1);
        Readings.notStrict("04 81 01 aa", 1);
        Readings.ok("04 7f aa*127", 1);
        Readings.notStrict("04 81 7f aa*127", 1);
        Readings.ok("04 81 80 aa*128", 1);
        Readings.notStrict("04 82 00 80 aa*128", 1);
        Readings.ok("04 81 ff aa*255", 1);
        Readings.notStrict("04 82 00 ff aa*255", 1);
        Readings.ok("04 82 01 00 aa*256", 1);
        Readings.notStrict("04 83 00 01 00 aa*256", 1);
        Readings.notStrict("04 84 00 00 01 00 aa*256", 1);
        Readings.ok("04 82 0f a0 aa*4000", 1);
        Readings.notStrict("04 83 00 0f a0 aa*4000", 1);
        Readings.notStrict("04 ff 00*126 01 aa", 1);
        Readings.notStrict("30 81 00", 1);
        // all in it must be so too, at any place and depth
        Readings.notStrict("30 81 02 05 00", 2);
        Readings.notStrict("30 03 05 81 00", 2);
        Readings.notStrict("30 05 05 81 00 05 00", 3);
        Readings.notStrict("30 05 05 00 05 81 00", 3);
        Readings.notStrict("30 07 30 05 30 03 05 81 00", 4);
        Readings.ok("30 03 04 01 81", 2);
    }

    private static void strictOpenOnes() {
        Readings.notStrict("30 80 00 00", 1);
        Readings.notStrict("30 80 05 00 00 00", 2);
        Readings.notStrict("30 04 30 80 00 00", 2);
        Readings.notStrict("30 06 05 00 30 80 00 00", 3);
        Readings.notStrict("30 06 30 04 30 80 00 00", 3);
        Readings.ok("30 06 04 04 30 80 00 00", 2);
    }

    private static void readLast() {
        RuleReader x = Check.reading("30 06 05 00 04 02 00 07");
        Check.load(x, Check.bytes("a4 03 02 01 09"));
        Check.due("read again", 2, x.read(true));
        Check.due("nodes of the second reading", 2, x.count(1));
        Check.nodeIs(x, 0, 2, 4, 1, 0, 2, 3, -1, 1);
        Check.nodeIs(x, 1, 0, 2, 0, 2, 4, 1, 0, 0);
        Check.due("number of the second reading", 9, x.number(1));
        Check.range("a node of the first reading", () -> x.node(2, 0));
        for (int i = 0; i < 3; i++) {
            Check.due("read of the same once more", 2, x.read(i == 1));
            Check.nodeIs(x, 0, 2, 4, 1, 0, 2, 3, -1, 1);
            Check.nodeIs(x, 1, 0, 2, 0, 2, 4, 1, 0, 0);
        }
        Check.load(x, Check.bytes("04 01 0b"));
        Check.due("read a third", 1, x.read(true));
        Check.nodeIs(x, 0, 0, 4, 0, 0, 2, 1, -1, 0);
        Check.due("number of the third reading", 11, x.number(0));
        Check.range("a node of the second reading", () -> x.node(1, 0));
        Check.range("a number of the second reading", () -> x.number(1));
        Check.range("an order of the second reading", () -> x.compare(0, 1));
    }

    private static void order() {
        RuleReader x = Check.reading("30 0e 31 06 32 02 81 00 82 00 33 02 83 00 84 00");
        int[] places = {0, 2, 4, 6, 8, 10, 12, 14};
        int[] numbers = {16, 17, 18, 1, 2, 19, 3, 4};
        int[] around = {-1, 0, 1, 2, 1, 0, 5, 0};
        for (int n = 0; n < 8; n++) {
            Check.due("where node " + n + " begins", places[n], x.node(n, 3));
            Check.due("the number of node " + n, numbers[n], x.node(n, 1));
            Check.due("around node " + n, around[n], x.node(n, 6));
        }
        Check.range("node(-1, 3)", () -> x.node(-1, 3));
        Check.range("node(8, 3)", () -> x.node(8, 3));
    }

    /** What is done to the tape behind a reading is not seen in the nodes. */
    private static void bytesOfThen() {
        keepsNodes("feed", x -> x.feed(-1, -1, -1, -1, -1));
        keepsNodes("end(0)", x -> x.end(0));
        keepsNodes("end(5)", x -> x.end(5));
        keepsNodes("wrap", x -> x.wrap(1, 1000, false));
        keepsNodes("add", x -> x.add(2, 3, Long.MIN_VALUE));
        keepsNodes("other bytes", x -> {
            x.end(0);
            x.feed(0x30060201, 0x07020103, 0x01020304, 0x05060708, 0x090a0b0c);
            x.end(8);
        });
        keepsNodes("other bytes and a reading that is refused", x -> {
            x.end(0);
            x.feed(0x30060201, 0x07020103, 0x01020304, 0x05060708, 0x090a0b0c);
            Check.unsupported("read", () -> x.read(false));
        });
        keepsNodes("a full tape", x -> {
            for (int i = 0; i < 204; i++) {
                x.feed(i, i, i, i, i);
            }
        });
    }

    private static void keepsNodes(String what, Consumer<RuleReader> change) {
        RuleReader x = Check.reading("30 06 02 01 05 02 01 06");
        change.accept(x);
        Check.due(what + ": nodes", 3, x.count(1));
        Check.nodeIs(x, 0, 0, 16, 1, 0, 2, 6, -1, 2);
        Check.nodeIs(x, 1, 0, 2, 0, 2, 4, 1, 0, 0);
        Check.nodeIs(x, 2, 0, 2, 0, 5, 7, 1, 0, 0);
        Check.due(what + ": number(1)", 5, x.number(1));
        Check.due(what + ": number(2)", 6, x.number(2));
        Check.due(what + ": compare(1, 2)", -1, x.compare(1, 2));
        Check.due(what + ": compare(2, 0)", 1, x.compare(2, 0));
    }

    private static void noneAtFirst() {
        RuleReader x = new RuleReader();
        Check.due("nodes of a new object", 0, x.count(1));
        Check.load(x, Check.bytes("05 00"));
        Check.due("nodes before a reading", 0, x.count(1));
        Check.range("node(0, 0) before a reading", () -> x.node(0, 0));
        Check.range("number(0) before a reading", () -> x.number(0));
        Check.range("compare(0, 0) before a reading", () -> x.compare(0, 0));
        Check.load(x, Check.bytes("30 04 05 00 05 01"));
        Check.unsupported("read", () -> x.read(false));
        Check.due("nodes behind a reading that was refused", 0, x.count(1));
        Check.range("node(0, 0) behind a reading that was refused", () -> x.node(0, 0));
    }

    /** Nodes 0 and 2 are constructed, 3 is empty, 4 is no number; the tape holds other bytes. */
    private static RuleReader busy() {
        RuleReader x = Check.reading("30 0b 02 01 05 30 00 04 00 02 02 00 05");
        Check.load(x, Check.bytes("a1 b2 c3 d4 e5 f6 07 18 29 3a"));
        return x;
    }

    private static RuleReader busyAndFull() {
        RuleReader x = Check.reading("30 0b 02 01 05 30 00 04 00 02 02 00 05");
        x.end(0);
        for (int i = 0; i < 204; i++) {
            x.feed(5 * i, 5 * i + 1, 5 * i + 2, 5 * i + 3, 5 * i + 4);
        }
        x.end(4076);
        x.feed(-1, -2, -3, -4, -5);
        return x;
    }

    private static void orderOfThrowing() {
        Check.range("wrap of a full tape, class -1", () -> busyAndFull().wrap(-1, 0, true));
        Check.range("wrap of a full tape, class 4", () -> busyAndFull().wrap(4, 0, true));
        Check.range("wrap of a full tape, number -1", () -> busyAndFull().wrap(0, -1, true));
        Check.range("add to a full tape, class -1", () -> busyAndFull().add(-1, 0, 0));
        Check.range("add to a full tape, class 4", () -> busyAndFull().add(4, 0, 0));
        Check.range("add to a full tape, number -1", () -> busyAndFull().add(0, -1, 0));
        Check.bounds("wrap of a full tape", () -> busyAndFull().wrap(0, 0, true));
        Check.bounds("add to a full tape", () -> busyAndFull().add(0, 0, 0));
        Check.range("number of no node", () -> busy().number(5));
        Check.unsupported("number of a constructed one", () -> busy().number(0));
        Check.unsupported("number of a constructed one that is empty", () -> busy().number(2));
        Check.arithmetic("number of an empty one", () -> busy().number(3));
        // constructed, and its first nine bits are alike: the first thing told is thrown
        RuleReader x = Check.reading("30 03 00 01 05");
        Check.unsupported("number of a constructed one with nine bits alike", () -> x.number(0));
        RuleReader y = Check.reading("30 07 02 05 01 02 03 04 05");
        Check.unsupported("number of a constructed one with seven bytes", () -> y.number(0));
        RuleReader z = Check.reading("30 0a 02 08 01 02 03 04 05 06 07 08");
        Check.unsupported("number of a constructed one with ten bytes", () -> z.number(0));
        Check.range("node of no node, what 8", () -> busy().node(5, 8));
        Check.range("compare of no nodes", () -> busy().compare(-1, 5));
    }

    private static void refusedCalls() {
        Check.Maker busy = TermsTest::busy;
        Check.refused("end(-1)", RANGE, busy, x -> x.end(-1));
        Check.refused("end(11)", RANGE, busy, x -> x.end(11));
        Check.refused("read(false)", UNSUPPORTED, busy, x -> x.read(false));
        Check.refused("read(true)", UNSUPPORTED, busy, x -> x.read(true));
        Check.refused("node(-1, 0)", RANGE, busy, x -> x.node(-1, 0));
        Check.refused("node(5, 0)", RANGE, busy, x -> x.node(5, 0));
        Check.refused("node(0, -1)", RANGE, busy, x -> x.node(0, -1));
        Check.refused("node(0, 8)", RANGE, busy, x -> x.node(0, 8));
        Check.refused("number(-1)", RANGE, busy, x -> x.number(-1));
        Check.refused("number(5)", RANGE, busy, x -> x.number(5));
        Check.refused("number(0)", UNSUPPORTED, busy, x -> x.number(0));
        Check.refused("number(3)", ARITHMETIC, busy, x -> x.number(3));
        Check.refused("number(4)", ARITHMETIC, busy, x -> x.number(4));
        Check.refused("wrap(-1, 0, true)", RANGE, busy, x -> x.wrap(-1, 0, true));
        Check.refused("wrap(4, 0, false)", RANGE, busy, x -> x.wrap(4, 0, false));
        Check.refused("wrap(0, -1, true)", RANGE, busy, x -> x.wrap(0, -1, true));
        Check.refused("add(-1, 0, 0)", RANGE, busy, x -> x.add(-1, 0, 0));
        Check.refused("add(4, 0, 0)", RANGE, busy, x -> x.add(4, 0, 0));
        Check.refused("add(0, -1, 0)", RANGE, busy, x -> x.add(0, -1, 0));
        Check.refused("compare(-1, 0)", RANGE, busy, x -> x.compare(-1, 0));
        Check.refused("compare(0, 5)", RANGE, busy, x -> x.compare(0, 5));
        Check.refused("count(-1)", RANGE, busy, x -> x.count(-1));
        Check.refused("count(2)", RANGE, busy, x -> x.count(2));
        Check.refused("word(-1)", BOUNDS, busy, x -> x.word(-1));
        Check.refused("word(10)", BOUNDS, busy, x -> x.word(10));
        refusedReadings();
    }

    /** Readings that come far before they are refused, by turns on one object. */
    private static void refusedReadings() {
        for (String text : new String[] {"30 05 04 00 04 00 04", "30 80 31 02 85 00 86 00", "30 04 30 00 30 01",
            "30 06 31 04 32 02 33 01", Readings.lengthsWithin(40, "05 00"), "a5 80 02 01 07 00 00 00", "24 81 00 00"}) {
            Check.Maker maker = () -> {
                RuleReader x = busy();
                Check.load(x, Check.bytes(text));
                return x;
            };
            Check.refused("read(false) of " + text, UNSUPPORTED, maker, x -> x.read(false));
            Check.refused("read(true) of " + text, UNSUPPORTED, maker, x -> x.read(true));
        }
    }

    private static void refusedCallsOnFullTape() {
        Check.Maker full = TermsTest::busyAndFull;
        Check.refused("feed", BOUNDS, full, x -> x.feed(9, 9, 9, 9, 9));
        Check.refused("wrap", BOUNDS, full, x -> x.wrap(3, 16, true));
        Check.refused("wrap of the greatest number", BOUNDS, full, x -> x.wrap(3, Integer.MAX_VALUE, true));
        Check.refused("add", BOUNDS, full, x -> x.add(3, 2, 9));
        Check.refused("add of the longest", BOUNDS, full, x -> x.add(3, Integer.MAX_VALUE, Long.MAX_VALUE));
        Check.refused("end(4097)", RANGE, full, x -> x.end(4097));
        Check.refused("word(4096)", BOUNDS, full, x -> x.word(4096));
        Check.refused("read(false)", UNSUPPORTED, full, x -> x.read(false));
    }

    private static void refusedCallsOnNewObject() {
        Check.Maker fresh = RuleReader::new;
        Check.refused("end(1)", RANGE, fresh, x -> x.end(1));
        Check.refused("read(false)", UNSUPPORTED, fresh, x -> x.read(false));
        Check.refused("node(0, 0)", RANGE, fresh, x -> x.node(0, 0));
        Check.refused("number(0)", RANGE, fresh, x -> x.number(0));
        Check.refused("wrap(4, 0, false)", RANGE, fresh, x -> x.wrap(4, 0, false));
        Check.refused("add(0, -1, 0)", RANGE, fresh, x -> x.add(0, -1, 0));
        Check.refused("compare(0, 0)", RANGE, fresh, x -> x.compare(0, 0));
        Check.refused("count(2)", RANGE, fresh, x -> x.count(2));
        Check.refused("word(0)", BOUNDS, fresh, x -> x.word(0));
    }
}

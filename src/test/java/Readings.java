/** Readings of bytes that are told as text: a value that is strict, one that is not, or none. */
final class Readings {
    private static final int OK = 1;
    private static final int NOT_STRICT = 2;
    private static final int NONE = 3;

    private Readings() {
    }

    /** Whether text is a value that is strict, one that is not, or none; many is how many values. */
    private static void value(String text, int kind, int many) {
        RuleReader x = Check.holding(text);
        if (kind == NONE) {
            Check.unsupported("read(false) of " + text, () -> x.read(false));
            Check.due("nodes of " + text, 0, x.count(1));
        } else {
            Check.due("read(false) of " + text, many, x.read(false));
            Check.due("nodes of " + text, many, x.count(1));
        }
        RuleReader y = Check.holding(text);
        if (kind == OK) {
            Check.due("read(true) of " + text, many, y.read(true));
        } else {
            Check.unsupported("read(true) of " + text, () -> y.read(true));
            Check.due("nodes of " + text, 0, y.count(1));
        }
        Check.tape("read leaves the tape", x, text);
        Check.tape("read leaves the tape", y, text);
    }

    static void ok(String text, int many) {
        value(text, OK, many);
    }

    static void notStrict(String text, int many) {
        value(text, NOT_STRICT, many);
    }

    static void none(String text) {
        value(text, NONE, 0);
    }

    static String within(int many, String opening, String closing) {
        StringBuilder text = new StringBuilder();
        for (int i = 0; i < many; i++) {
            text.append(opening).append(' ');
        }
        for (int i = 0; i < many; i++) {
            text.append(closing).append(' ');
        }
        return text.toString();
    }

    static String lengthsWithin(int many, String innermost) {
        String text = innermost;
        int length = innermost.trim().split("\\s+").length;
        for (int i = 0; i < many; i++) {
            text = "30 " + Integer.toHexString(length) + " " + text;
            length += 2;
        }
        return text;
    }
}

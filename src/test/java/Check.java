/** What the tests share: calls, what is due of them, and feeding bytes. */
final class Check {
    private static int wrong = 0;
    private static int made = 0;
    private static int sentences = 0;
    /** The sentence that is being tested, told with what goes wrong; empty outside of sentence. */
    private static String where = "";

    interface Call {
        long run();
    }

    interface Maker {
        RuleReader make();
    }

    interface CallOn {
        long run(RuleReader x);
    }

    private Check() {
    }

    /** Runs the test of one sentence of the document. */
    static void sentence(String part, String quote, Runnable test) {
        where = part + ", \"" + quote + "\": ";
        sentences++;
        int before = made;
        try {
            test.run();
        } catch (RuntimeException e) {
            tell("the test came to " + e);
        }
        if (made == before) {
            tell("the test looked at nothing");
        }
        where = "";
    }

    private static void tell(String what) {
        wrong++;
        System.out.println(where + what);
    }

    static void due(String what, long want, long got) {
        made++;
        if (got != want) {
            tell(what + " answered " + got + ", due is " + want);
        }
    }

    static void same(String what, String want, String got) {
        made++;
        if (!got.equals(want)) {
            tell(what + " is " + got + ", due is " + want);
        }
    }

    static void throwing(String what, Class<? extends Exception> want, Call call) {
        made++;
        String got = "nothing";
        try {
            got = "nothing, and answered " + call.run();
        } catch (RuntimeException e) {
            if (e.getClass() == want) {
                return;
            }
            got = e.getClass().getName();
        }
        tell(what + " threw " + got + ", due is " + want.getName());
    }

    static void range(String what, Call call) {
        throwing(what, IllegalArgumentException.class, call);
    }

    static void bounds(String what, Call call) {
        throwing(what, IndexOutOfBoundsException.class, call);
    }

    static void unsupported(String what, Call call) {
        throwing(what, UnsupportedOperationException.class, call);
    }

    static void arithmetic(String what, Call call) {
        throwing(what, ArithmeticException.class, call);
    }

    /** Bytes of text such as "30 03 02 01 05"; "00*5" stands for five zeros. */
    static byte[] bytes(String text) {
        java.io.ByteArrayOutputStream out = new java.io.ByteArrayOutputStream();
        for (String part : text.trim().split("\\s+")) {
            if (part.isEmpty()) {
                continue;
            }
            String[] halves = part.split("\\*");
            int times = halves.length == 2 ? Integer.parseInt(halves[1]) : 1;
            for (int i = 0; i < times; i++) {
                out.write(Integer.parseInt(halves[0], 16));
            }
        }
        return out.toByteArray();
    }

    /** Makes the tape just these bytes, at most 4080 of them. */
    static void load(RuleReader x, byte[] bytes) {
        x.end(0);
        for (int i = 0; i < bytes.length; i += 20) {
            int[] w = new int[5];
            for (int j = 0; j < 20; j++) {
                int b = i + j < bytes.length ? bytes[i + j] & 255 : 0;
                w[j / 4] |= b << (24 - 8 * (j % 4));
            }
            x.feed(w[0], w[1], w[2], w[3], w[4]);
        }
        x.end(bytes.length);
    }

    static RuleReader holding(String text) {
        RuleReader x = new RuleReader();
        load(x, bytes(text));
        return x;
    }

    static RuleReader reading(String text) {
        RuleReader x = holding(text);
        x.read(false);
        return x;
    }

    /** A tape of so many bytes, 20 to 4096, by at most 206 calls; no two ints of it are alike. */
    static RuleReader full(int length) {
        RuleReader x = new RuleReader();
        int feeds = (length - 1) / 20;
        for (int i = 0; i < feeds; i++) {
            int n = 0x01020304 + 5 * i;
            x.feed(n, n + 1, n + 2, n + 3, n + 4);
        }
        x.end(length - 20);
        x.feed(0x81828384, -1, -2, -3, 0x85868788);
        return x;
    }

    /** Of a long tape only some words are looked at: an object has 512 calls. */
    private static int step(int length) {
        return Math.max(8, (length + 63) / 64);
    }

    static void tape(String what, RuleReader x, String text) {
        byte[] want = bytes(text);
        int length = x.count(0);
        due(what + ": length", want.length, length);
        for (int i = 0; i < Math.min(want.length, length); i += step(length)) {
            due(what + ": word " + i, wordOf(want, i), x.word(i));
        }
        if (length > 0 && length == want.length) {
            due(what + ": last byte", wordOf(want, length - 1), x.word(length - 1));
        }
    }

    private static long wordOf(byte[] bytes, int from) {
        long word = 0;
        for (int i = from; i < from + 8; i++) {
            word = word << 8 | (i < bytes.length ? bytes[i] & 255 : 0);
        }
        return word;
    }

    /** Of the tape, and of up to six nodes, all that can be asked. */
    static String state(RuleReader x) {
        int length = x.count(0);
        int many = x.count(1);
        StringBuilder all = new StringBuilder("tape " + length + ":");
        for (int i = 0; i < length; i += step(length)) {
            all.append(' ').append(Long.toHexString(x.word(i)));
        }
        all.append(", nodes ").append(many).append(':');
        for (int n = 0; n < Math.min(many, 6); n++) {
            int node = n;
            for (int what = 0; what < 8; what++) {
                all.append(' ').append(x.node(n, what));
            }
            all.append(", ").append(outcome(() -> x.number(node)));
            all.append(", ").append(x.compare(n, many - 1)).append(';');
        }
        return all.toString();
    }

    static String outcome(Call call) {
        try {
            return "answers " + call.run();
        } catch (RuntimeException e) {
            return e.getClass().getSimpleName();
        }
    }

    /** The call throws just that, and all that can be asked is as it was. */
    static void refused(String what, Class<? extends Exception> want, Maker maker, CallOn call) {
        RuleReader x = maker.make();
        String before = state(x);
        throwing(what, want, () -> call.run(x));
        same("the state behind " + what, before, state(x));
    }

    static void nodeIs(RuleReader x, int n, int... want) {
        for (int what = 0; what < 8; what++) {
            due("node(" + n + ", " + what + ")", want[what], x.node(n, what));
        }
    }

    static void finish() {
        String of = sentences > 0 ? " for " + sentences + " sentences" : "";
        System.out.println(made + " answers looked at" + of + ", " + wrong + " not as due");
        if (wrong != 0 || made == 0) {
            System.exit(1);
        }
    }
}

/** What the tests share: calls, what is due of them, and feeding bytes. */
final class Check {
    private static int wrong = 0;
    private static int made = 0;

    interface Call {
        long run();
    }

    private Check() {
    }

    static void due(String what, long want, long got) {
        made++;
        if (got != want) {
            wrong++;
            System.out.println(what + " answered " + got + ", due is " + want);
        }
    }

    static void throwing(String what, Class<? extends Exception> want, Call call) {
        made++;
        String got = "nothing";
        try {
            got = "nothing, and answered " + call.run();
        } catch (RuntimeException e) {
            if (e.getClass() == want) {
                return;
            }
            got = e.getClass().getName();
        }
        wrong++;
        System.out.println(what + " threw " + got + ", due is " + want.getName());
    }

    static void range(String what, Call call) {
        throwing(what, IllegalArgumentException.class, call);
    }

    static void bounds(String what, Call call) {
        throwing(what, IndexOutOfBoundsException.class, call);
    }

    static void unsupported(String what, Call call) {
        throwing(what, UnsupportedOperationException.class, call);
    }

    static void arithmetic(String what, Call call) {
        throwing(what, ArithmeticException.class, call);
    }

    /** Bytes of text such as "30 03 02 01 05"; "00*5" stands for five zeros. */
    static byte[] bytes(String text) {
        java.io.ByteArrayOutputStream out = new java.io.ByteArrayOutputStream();
        for (String part : text.trim().split("\\s+")) {
            if (part.isEmpty()) {
                continue;
            }
            String[] halves = part.split("\\*");
            int times = halves.length == 2 ? Integer.parseInt(halves[1]) : 1;
            for (int i = 0; i < times; i++) {
                out.write(Integer.parseInt(halves[0], 16));
            }
        }
        return out.toByteArray();
    }

    /** Makes the tape just these bytes, at most 4080 of them. */
    static void load(RuleReader x, byte[] bytes) {
        x.end(0);
        for (int i = 0; i < bytes.length; i += 20) {
            int[] w = new int[5];
            for (int j = 0; j < 20; j++) {
                int b = i + j < bytes.length ? bytes[i + j] & 255 : 0;
                w[j / 4] |= b << (24 - 8 * (j % 4));
            }
            x.feed(w[0], w[1], w[2], w[3], w[4]);
        }
        x.end(bytes.length);
    }

    static RuleReader holding(String text) {
        RuleReader x = new RuleReader();
        load(x, bytes(text));
        return x;
    }

    static RuleReader reading(String text) {
        RuleReader x = holding(text);
        x.read(false);
        return x;
    }

    static void tape(String what, RuleReader x, String text) {
        byte[] want = bytes(text);
        due(what + ": length", want.length, x.count(0));
        for (int i = 0; i < Math.min(want.length, x.count(0)); i++) {
            due(what + ": byte " + i, want[i] & 255, x.word(i) >>> 56);
        }
    }

    static void nodeIs(RuleReader x, int n, int... want) {
        for (int what = 0; what < 8; what++) {
            due("node(" + n + ", " + what + ")", want[what], x.node(n, what));
        }
    }

    static void finish() {
        System.out.println(made + " answers looked at, " + wrong + " not as due");
        if (wrong != 0 || made == 0) {
            System.exit(1);
        }
    }
}

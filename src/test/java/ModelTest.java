import java.math.BigInteger;
import java.util.Random;
import java.util.TreeMap;

/** All promises: runs of calls on the class and on the model, which must answer alike. */
public final class ModelTest {
    private static final int RUNS = 1500;
    private static final int CALLS = 512;

    /** Seeded by the run's number: every time the same calls. */
    private final Random random;
    private final RuleReader x = new RuleReader();
    private final Model model = new Model();
    private final int run;
    private int calls = 0;
    private static final TreeMap<String, Integer> SEEN = new TreeMap<>();

    private ModelTest(int run) {
        this.run = run;
        random = new Random(run);
    }

    public static void main(String[] args) {
        for (int run = 0; run < RUNS; run++) {
            new ModelTest(run).play();
        }
        for (String need : new String[] {"read: answers", "read: UnsupportedOperationException", "number: answers",
            "number: ArithmeticException", "number: UnsupportedOperationException",
            "number: IllegalArgumentException", "wrap: IndexOutOfBoundsException", "add: IndexOutOfBoundsException",
            "feed: IndexOutOfBoundsException", "compare: answers", "word: answers", "word: IndexOutOfBoundsException"}) {
            Check.due("the runs came to " + need + " (1)", 1, SEEN.getOrDefault(need, 0) >= 100 ? 1 : 0);
        }
        Check.finish();
    }

    private void play() {
        while (calls < CALLS) {
            int kind = random.nextInt(10);
            if (kind < 5) {
                loadValue();
            } else if (kind < 7) {
                write();
            } else if (kind == 7) {
                fill();
            }
            readings();
            for (int i = random.nextInt(8); i > 0; i--) {
                anyCall();
            }
        }
    }

    private void both(String name, String arguments, Check.Call mine, Check.Call models) {
        if (calls >= CALLS) {
            return;
        }
        calls++;
        String want = Check.outcome(models);
        String got = Check.outcome(mine);
        SEEN.merge(name + ": " + want.split(" ")[0], 1, Integer::sum);
        Check.due("run " + run + ", call " + calls + ": " + name + "(" + arguments + ") " + got
            + ", due is " + want + " (1)", 1, want.equals(got) ? 1 : 0);
    }

    private void end(int n) {
        both("end", "" + n, () -> x.end(n), () -> model.end(n));
    }

    private void feed(int a, int b, int c, int d, int e) {
        both("feed", a + ", " + b + ", " + c + ", " + d + ", " + e,
            () -> x.feed(a, b, c, d, e), () -> model.feed(a, b, c, d, e));
    }

    private void read(boolean strict) {
        both("read", "" + strict, () -> x.read(strict), () -> model.read(strict));
    }

    private void node(int n, int what) {
        both("node", n + ", " + what, () -> x.node(n, what), () -> model.node(n, what));
    }

    private void number(int n) {
        both("number", "" + n, () -> x.number(n), () -> model.number(n));
    }

    private void wrap(int c, int k, boolean constructed) {
        both("wrap", c + ", " + k + ", " + constructed,
            () -> x.wrap(c, k, constructed), () -> model.wrap(c, k, constructed));
    }

    private void add(int c, int k, long v) {
        both("add", c + ", " + k + ", " + v, () -> x.add(c, k, v), () -> model.add(c, k, v));
    }

    private void compare(int a, int b) {
        both("compare", a + ", " + b, () -> x.compare(a, b), () -> model.compare(a, b));
    }

    private void count(int what) {
        both("count", "" + what, () -> x.count(what), () -> model.count(what));
    }

    private void word(int i) {
        both("word", "" + i, () -> x.word(i), () -> model.word(i));
    }

    /** Feeds a value made by chance, now and then with a byte changed, missing or too many. */
    private void loadValue() {
        byte[] bytes = random.nextInt(12) == 0 ? chain(38 + random.nextInt(5)) : value(random.nextInt(6));
        int harm = random.nextInt(6);
        if (harm == 0 && bytes.length > 0) {
            bytes[random.nextInt(bytes.length)] = (byte) (random.nextBoolean() ? random.nextInt(256) : 128);
        } else if (harm == 1) {
            bytes = java.util.Arrays.copyOf(bytes, Math.max(0, bytes.length - 1 + random.nextInt(3)));
        }
        if (bytes.length > 1200) {
            return;
        }
        if (random.nextInt(8) != 0) {
            end(0);
        }
        int before = model.count(0);
        for (int i = 0; i < bytes.length; i += 20) {
            int[] w = new int[5];
            for (int j = 0; j < 20 && i + j < bytes.length; j++) {
                w[j / 4] |= (bytes[i + j] & 255) << (24 - 8 * (j % 4));
            }
            feed(w[0], w[1], w[2], w[3], w[4]);
        }
        end(Math.min(model.count(0), before + bytes.length));
    }

    private byte[] chain(int many) {
        byte[] bytes = random.nextBoolean() ? new byte[0] : new byte[] {4, 0};
        for (int i = 0; i < many; i++) {
            bytes = whole(random.nextInt(4), number(), true, bytes);
        }
        return bytes;
    }

    private byte[] value(int deep) {
        boolean constructed = deep > 0 && random.nextInt(4) != 0;
        byte[] contents = new byte[0];
        if (constructed) {
            for (int i = random.nextInt(4); i > 0; i--) {
                contents = Model.join(contents, value(deep - 1));
            }
        } else {
            contents = new byte[random.nextInt(20) == 0 ? 120 + random.nextInt(160) : random.nextInt(11)];
            random.nextBytes(contents);
            for (int i = 0; i < contents.length && random.nextInt(3) == 0; i++) {
                contents[i] = (byte) (random.nextBoolean() ? 0 : 255);
            }
        }
        return whole(random.nextInt(4), number(), constructed, contents);
    }

    private BigInteger number() {
        int kind = random.nextInt(12);
        if (kind < 8) {
            return BigInteger.valueOf(random.nextInt(35));
        }
        return kind == 11 ? new BigInteger(80, random).setBit(random.nextInt(80))
            : BigInteger.valueOf(random.nextLong() >>> (random.nextInt(40) + 24));
    }

    private byte[] whole(int c, BigInteger k, boolean constructed, byte[] contents) {
        byte[] head = Model.identifier(c, k, constructed);
        int form = random.nextInt(8);
        if (form == 0) {
            byte[] digits = new byte[random.nextInt(20) == 0 ? 127 : 2 + random.nextInt(9)];
            digits[digits.length - 1] = (byte) contents.length;
            digits[digits.length - 2] = (byte) (contents.length >> 8);
            return Model.join(head, new byte[] {(byte) (128 + digits.length)}, digits, contents);
        }
        if (form == 1 && constructed) {
            return Model.join(head, new byte[] {(byte) 128}, contents, new byte[2]);
        }
        return Model.join(head, Model.shortestLength(contents.length), contents);
    }

    private void write() {
        if (random.nextBoolean()) {
            end(0);
        }
        for (int i = random.nextInt(6); i > 0; i--) {
            add(random.nextInt(4), random.nextInt() >>> (1 + random.nextInt(31)),
                random.nextLong() >> random.nextInt(64));
        }
        wrap(random.nextInt(4), random.nextInt() >>> (1 + random.nextInt(31)), random.nextInt(4) != 0);
    }

    /** Comes near the limit of 4096 by wrapping, feeding and adding. */
    private void fill() {
        if (random.nextInt(6) != 0) {
            return;
        }
        for (int i = 0; i < 210 && model.count(0) <= 4076; i++) {
            feed(0x05000200, 0x02010502, 0x04000000, 0x09000400, 0x04020100);
        }
        for (int i = 0; i < 12; i++) {
            end(Math.max(0, Math.min(model.count(0), 4096 - random.nextInt(24))));
            if (random.nextBoolean()) {
                wrap(random.nextInt(4), random.nextInt() >>> (1 + random.nextInt(31)), true);
            } else {
                add(random.nextInt(4), random.nextInt() >>> (1 + random.nextInt(31)), random.nextLong());
            }
            word(Math.max(0, model.count(0) - 8));
        }
        feed(1, 2, 3, 4, 5);
    }

    private void readings() {
        if (random.nextInt(3) == 0) {
            read(true);
        }
        read(random.nextInt(5) == 0);
        count(1);
        int many = model.count(1);
        for (int i = 0; i < 3 && many > 0; i++) {
            int n = random.nextInt(many);
            for (int what = 0; what < 8; what++) {
                node(n, what);
            }
            number(n);
            compare(n, random.nextInt(many));
        }
    }

    private int oddInt(int near) {
        int[] odd = {-1, 0, 1, near - 1, near, near + 1, random.nextInt(), Integer.MAX_VALUE, Integer.MIN_VALUE};
        return odd[random.nextInt(odd.length)];
    }

    private void anyCall() {
        int many = model.count(1);
        int length = model.count(0);
        switch (random.nextInt(9)) {
            case 0 -> end(random.nextInt(3) == 0 ? oddInt(length) : length - random.nextInt(length + 1));
            case 1 -> node(oddInt(many), oddInt(8));
            case 2 -> number(oddInt(many));
            case 3 -> wrap(oddInt(4), oddInt(31), random.nextBoolean());
            case 4 -> add(oddInt(4), oddInt(31), random.nextLong() >> random.nextInt(64));
            case 5 -> compare(oddInt(many), oddInt(many));
            case 6 -> count(oddInt(2));
            case 7 -> word(random.nextBoolean() || length == 0 ? oddInt(length) : random.nextInt(length));
            default -> node(random.nextInt(many + 1), random.nextInt(8));
        }
    }
}

import java.math.BigInteger;
import java.util.ArrayList;
import java.util.Arrays;
import java.util.List;

/** The document once more, by other means than the class: lists, big integers, copies, exceptions. */
final class Model {
    private static final class Node {
        private int[] fields;
        private byte[] contents;
    }

    private static final class NoValue extends Exception {
        private static final long serialVersionUID = 1;
    }

    private static final BigInteger LIMIT = BigInteger.ONE.shiftLeft(31);

    private byte[] tape = new byte[0];
    private List<Node> nodes = new ArrayList<>();
    private List<Node> found = new ArrayList<>();
    private boolean strict;
    private int at;

    int feed(int... words) {
        byte[] more = new byte[20];
        for (int i = 0; i < 20; i++) {
            more[i] = (byte) (words[i / 4] >>> (24 - 8 * (i % 4)));
        }
        return become(join(tape, more));
    }

    int end(int n) {
        inRange(n, 0, tape.length);
        return become(Arrays.copyOf(tape, n));
    }

    int read(boolean asStrict) {
        found = new ArrayList<>();
        strict = asStrict;
        at = 0;
        try {
            value(tape.length, -1, 40);
            if (at != tape.length) {
                throw new NoValue();
            }
        } catch (NoValue e) {
            throw new UnsupportedOperationException();
        }
        nodes = found;
        return nodes.size();
    }

    int node(int n, int what) {
        inRange(n, 0, nodes.size() - 1);
        inRange(what, 0, 7);
        return nodes.get(n).fields[what];
    }

    long number(int n) {
        inRange(n, 0, nodes.size() - 1);
        Node node = nodes.get(n);
        if (node.fields[2] == 1) {
            throw new UnsupportedOperationException();
        }
        byte[] contents = node.contents;
        if (contents.length == 0 || contents.length > 8) {
            throw new ArithmeticException();
        }
        BigInteger value = new BigInteger(contents);
        if (!Arrays.equals(value.toByteArray(), contents)) {
            throw new ArithmeticException();
        }
        return value.longValueExact();
    }

    int wrap(int c, int k, boolean constructed) {
        inRange(c, 0, 3);
        inRange(k, 0, Integer.MAX_VALUE);
        return become(encode(c, k, constructed, tape));
    }

    int add(int c, int k, long x) {
        inRange(c, 0, 3);
        inRange(k, 0, Integer.MAX_VALUE);
        return become(join(tape, encode(c, k, false, BigInteger.valueOf(x).toByteArray())));
    }

    int compare(int a, int b) {
        inRange(a, 0, nodes.size() - 1);
        inRange(b, 0, nodes.size() - 1);
        byte[] first = nodes.get(a).contents;
        byte[] second = nodes.get(b).contents;
        int length = Math.max(first.length, second.length);
        int order = Arrays.compareUnsigned(Arrays.copyOf(first, length), Arrays.copyOf(second, length));
        return Integer.signum(order);
    }

    int count(int what) {
        inRange(what, 0, 1);
        return what == 0 ? tape.length : nodes.size();
    }

    long word(int i) {
        if (i < 0 || i >= tape.length) {
            throw new IndexOutOfBoundsException();
        }
        return java.nio.ByteBuffer.wrap(Arrays.copyOfRange(tape, i, i + 8)).getLong();
    }

    static byte[] join(byte[]... parts) {
        java.io.ByteArrayOutputStream out = new java.io.ByteArrayOutputStream();
        for (byte[] part : parts) {
            out.writeBytes(part);
        }
        return out.toByteArray();
    }

    static byte[] identifier(int c, BigInteger k, boolean constructed) {
        int first = c << 6 | (constructed ? 1 << 5 : 0);
        if (k.compareTo(BigInteger.valueOf(31)) < 0) {
            return new byte[] {(byte) (first | k.intValue())};
        }
        String bits = k.toString(2);
        int sevens = (bits.length() + 6) / 7;
        byte[] all = new byte[1 + sevens];
        all[0] = (byte) (first | 31);
        for (int i = 1; i <= sevens; i++) {
            int seven = k.shiftRight(7 * (sevens - i)).intValue() & 127;
            all[i] = (byte) (i < sevens ? seven | 128 : seven);
        }
        return all;
    }

    static byte[] shortestLength(int length) {
        if (length < 128) {
            return new byte[] {(byte) length};
        }
        byte[] digits = BigInteger.valueOf(length).toByteArray();
        if (digits[0] == 0) {
            digits = Arrays.copyOfRange(digits, 1, digits.length);
        }
        return join(new byte[] {(byte) (128 | digits.length)}, digits);
    }

    private static byte[] encode(int c, int k, boolean constructed, byte[] contents) {
        return join(identifier(c, BigInteger.valueOf(k), constructed), shortestLength(contents.length), contents);
    }

    private int become(byte[] bytes) {
        if (bytes.length > 4096) {
            throw new IndexOutOfBoundsException();
        }
        tape = bytes;
        return tape.length;
    }

    private static void inRange(int n, int least, int most) {
        if (n < least || n > most) {
            throw new IllegalArgumentException();
        }
    }

    private int next(int limit) throws NoValue {
        if (at >= limit) {
            throw new NoValue();
        }
        return Byte.toUnsignedInt(tape[at++]);
    }

    private void value(int limit, int parent, int left) throws NoValue {
        if (left == 0) {
            throw new NoValue();
        }
        int place = at;
        int first = next(limit);
        boolean constructed = (first / 32) % 2 == 1;
        BigInteger tag = first % 32 < 31 ? BigInteger.valueOf(first % 32) : longTag(limit);
        int length = length(limit, constructed);
        Node node = new Node();
        int n = found.size();
        int start = at;
        found.add(node);
        node.fields = new int[] {first / 64, tag.compareTo(LIMIT) < 0 ? tag.intValue() : -1,
            constructed ? 1 : 0, place, start, 0, parent, 0};
        if (parent >= 0) {
            found.get(parent).fields[7]++;
        }
        int stop = length < 0 ? limit : start + length;
        if (length < 0) {
            while (!(at + 1 < limit && tape[at] == 0 && tape[at + 1] == 0)) {
                value(limit, n, left - 1);
            }
            stop = at;
            at += 2;
        } else if (constructed) {
            while (at < stop) {
                value(stop, n, left - 1);
            }
        } else {
            at = stop;
        }
        node.fields[5] = stop - start;
        node.contents = Arrays.copyOfRange(tape, start, stop);
    }

    private BigInteger longTag(int limit) throws NoValue {
        StringBuilder bits = new StringBuilder();
        int b;
        do {
            b = next(limit);
            bits.append(Integer.toBinaryString(128 | b & 127).substring(1));
            if (bits.length() == 7 && bits.indexOf("1") < 0) {
                throw new NoValue();
            }
        } while (b >= 128);
        BigInteger tag = new BigInteger(bits.toString(), 2);
        if (tag.intValue() < 31 && tag.bitLength() < 8) {
            throw new NoValue();
        }
        return tag;
    }

    /** -1 for 128 alone. */
    private int length(int limit, boolean constructed) throws NoValue {
        int from = at;
        int first = next(limit);
        if (first == 128) {
            if (strict || !constructed) {
                throw new NoValue();
            }
            return -1;
        }
        BigInteger length = BigInteger.valueOf(first);
        if (first > 128) {
            byte[] digits = new byte[first - 128];
            for (int i = 0; i < digits.length; i++) {
                digits[i] = (byte) next(limit);
            }
            length = new BigInteger(1, digits);
        }
        if (length.compareTo(BigInteger.valueOf(limit - at)) > 0) {
            throw new NoValue();
        }
        if (strict && at - from != shortestLength(length.intValue()).length) {
            throw new NoValue();
        }
        return length.intValue();
    }
}

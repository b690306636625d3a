import java.util.Arrays;

/**
 * Identifiers, lengths and contents one within another, as the basic and the
 * distinguished encoding rules have them: a tape of bytes is fed, wrapped and
 * added to; read lays it out as nodes.
 */
public final class RuleReader {
    private static final int MOST_BYTES = 4096;
    private static final int MOST_DEEP = 40;
    /** The shortest value has two bytes, so no tape holds more values. */
    private static final int MOST_NODES = MOST_BYTES / 2;

    /** Rows begin small and grow by need, so that an object that is hardly used costs little room. */
    private static final int FIRST_BYTES = 64;
    private static final int FIRST_NODES = 8;

    /** What is kept of a node, in the order in which the document numbers it. */
    private static final int CLASS = 0;
    private static final int NUMBER = 1;
    private static final int CONSTRUCTED = 2;
    private static final int PLACE = 3;
    private static final int CONTENTS = 4;
    private static final int SIZE = 5;
    private static final int PARENT = 6;
    private static final int CHILDREN = 7;
    private static final int FIELDS = 8;

    /** Stands for a place that there is not. */
    private static final int NONE = -1;

    private static final int FED_BYTES = 20;
    private static final int LONG_BYTES = 8;
    private static final int CONSTRUCTED_BIT = 32;
    private static final int LONG_NUMBER = 31;
    private static final int GREATEST_NUMBER = 0x7fffffff;
    private static final int MORE = 128;
    private static final int OPEN_LENGTH = 128;

    private final Bytes tape;
    /** What wrap and add write first, to know its length before the tape is touched. */
    private final Bytes piece;
    private Nodes nodes;
    /** read works here and swaps, so that a reading that fails leaves the nodes alone. */
    private Nodes spare;

    public RuleReader() {
        tape = new Bytes();
        piece = new Bytes();
        nodes = new Nodes();
        spare = new Nodes();
    }

    public int feed(int a, int b, int c, int d, int e) throws IndexOutOfBoundsException {
        if (!tape.hasRoomFor(FED_BYTES)) {
            throw new IndexOutOfBoundsException("the tape would have more than 4096 bytes");
        }
        tape.appendNumber(a, 4);
        tape.appendNumber(b, 4);
        tape.appendNumber(c, 4);
        tape.appendNumber(d, 4);
        tape.appendNumber(e, 4);
        return tape.size();
    }

    public int end(int n) throws IllegalArgumentException {
        if (n < 0 || n > tape.size()) {
            throw new IllegalArgumentException("the tape has not so many bytes");
        }
        tape.cut(n);
        return n;
    }

    public int read(boolean strict) throws UnsupportedOperationException {
        if (!spare.layOut(tape, strict)) {
            throw new UnsupportedOperationException("the tape is not just one value");
        }
        Nodes before = nodes;
        nodes = spare;
        spare = before;
        return nodes.size();
    }

    public int node(int n, int what) throws IllegalArgumentException {
        if (!nodes.has(n)) {
            throw new IllegalArgumentException("there is no such node");
        }
        if (what < 0 || what >= FIELDS) {
            throw new IllegalArgumentException("what is 0 to 7");
        }
        return nodes.get(n, what);
    }

    public long number(int n) throws IllegalArgumentException, UnsupportedOperationException, ArithmeticException {
        if (!nodes.has(n)) {
            throw new IllegalArgumentException("there is no such node");
        }
        if (nodes.get(n, CONSTRUCTED) == 1) {
            throw new UnsupportedOperationException("the node is constructed");
        }
        if (!nodes.holdsNumber(n)) {
            throw new ArithmeticException("the contents are no number of 1 to 8 bytes, or not the shortest");
        }
        return nodes.signedContents(n);
    }

    public int wrap(int c, int k, boolean constructed) throws IllegalArgumentException, IndexOutOfBoundsException {
        if (!isIdentifier(c, k)) {
            throw new IllegalArgumentException("class 0 to 3, number 0 to 2^31 - 1");
        }
        piece.cut(0);
        writeIdentifier(c, k, constructed);
        writeLength(tape.size());
        if (!tape.hasRoomFor(piece.size())) {
            throw new IndexOutOfBoundsException("the tape would have more than 4096 bytes");
        }
        tape.putInFront(piece);
        return tape.size();
    }

    public int add(int c, int k, long x) throws IllegalArgumentException, IndexOutOfBoundsException {
        if (!isIdentifier(c, k)) {
            throw new IllegalArgumentException("class 0 to 3, number 0 to 2^31 - 1");
        }
        int width = fewestBytes(x);
        piece.cut(0);
        writeIdentifier(c, k, false);
        writeLength(width);
        piece.appendNumber(x, width);
        if (!tape.hasRoomFor(piece.size())) {
            throw new IndexOutOfBoundsException("the tape would have more than 4096 bytes");
        }
        tape.putBehind(piece);
        return tape.size();
    }

    public int compare(int a, int b) throws IllegalArgumentException {
        if (!nodes.has(a) || !nodes.has(b)) {
            throw new IllegalArgumentException("there is no such node");
        }
        return nodes.orderOf(a, b);
    }

    public int count(int what) throws IllegalArgumentException {
        if (what < 0 || what > 1) {
            throw new IllegalArgumentException("what is 0 or 1");
        }
        return what == 0 ? tape.size() : nodes.size();
    }

    public long word(int i) throws IndexOutOfBoundsException {
        if (i < 0 || i >= tape.size()) {
            throw new IndexOutOfBoundsException("the tape has no such byte");
        }
        long value = 0;
        for (int j = 0; j < LONG_BYTES; j++) {
            value = (value << 8) | tape.at(i + j);
        }
        return value;
    }

    private static boolean isIdentifier(int c, int k) {
        return c >= 0 && c <= 3 && k >= 0;
    }

    private void writeIdentifier(int c, int k, boolean constructed) {
        int first = c * 64 + (constructed ? CONSTRUCTED_BIT : 0);
        if (k < LONG_NUMBER) {
            piece.append(first + k);
            return;
        }
        piece.append(first + LONG_NUMBER);
        for (int shift = 28; shift >= 7; shift -= 7) {
            if ((k >> shift) != 0) {
                piece.append(MORE + ((k >> shift) & 127));
            }
        }
        piece.append(k & 127);
    }

    private void writeLength(int length) {
        if (length < 128) {
            piece.append(length);
        } else if (length < 256) {
            piece.append(MORE + 1);
            piece.append(length);
        } else {
            piece.append(MORE + 2);
            piece.appendNumber(length, 2);
        }
    }

    private static int fewestBytes(long x) {
        for (int width = 1; width < LONG_BYTES; width++) {
            long sign = x >> (8 * width - 1);
            if (sign == 0 || sign == -1) {
                return width;
            }
        }
        return LONG_BYTES;
    }

    /** A row of at most 4096 bytes; its array is never shorter than its length. */
    private static final class Bytes {
        private byte[] row;
        private int length;

        Bytes() {
            row = new byte[FIRST_BYTES];
            length = 0;
        }

        int size() {
            return length;
        }

        boolean hasRoomFor(int more) {
            return more >= 0 && more <= MOST_BYTES - length;
        }

        /** Behind the end all bytes are 0: word and orderOf count on it. */
        int at(int i) {
            return i >= 0 && i < length && i < row.length ? row[i] & 255 : 0;
        }

        void cut(int n) {
            if (n >= 0 && n < length) {
                length = n;
            }
        }

        void append(int value) {
            if (hasRoomFor(1)) {
                lengthen(1);
                set(length - 1, value);
            }
        }

        void appendNumber(long x, int width) {
            for (int i = Math.min(width, LONG_BYTES) - 1; i >= 0; i--) {
                append((int) (x >> (8 * i)) & 255);
            }
        }

        void putBehind(Bytes other) {
            int before = length;
            if (hasRoomFor(other.length)) {
                lengthen(other.length);
                layOver(other.row, other.length, before);
            }
        }

        void putInFront(Bytes other) {
            int before = length;
            int by = other.length;
            if (hasRoomFor(by)) {
                lengthen(by);
                layOver(row, before, by);
                layOver(other.row, by, 0);
            }
        }

        void become(Bytes other) {
            cut(0);
            putBehind(other);
        }

        private void layOver(byte[] from, int many, int place) {
            if (many >= 0 && many <= from.length && place >= 0 && place <= row.length - many) {
                System.arraycopy(from, 0, row, place, many);
            }
        }

        private void set(int i, int value) {
            if (i >= 0 && i < row.length) {
                row[i] = (byte) value;
            }
        }

        /** Only called where hasRoomFor(by) holds. */
        private void lengthen(int by) {
            int wanted = length + by;
            if (wanted > row.length) {
                row = Arrays.copyOf(row, Math.max(wanted, Math.min(MOST_BYTES, 2 * row.length)));
            }
            length = wanted;
        }
    }

    /** An identifier with the length behind it. */
    private static final class Header {
        private int kind;
        private boolean constructed;
        private int tag;
        private boolean open;
        /** Of an open one not known yet, and 0. */
        private int size;
        private int contents;

        Header() {
            kind = 0;
            constructed = false;
            tag = 0;
            open = false;
            size = 0;
            contents = 0;
        }

        /** Whether one begins at place whose bytes, and if known its contents, lie before limit. */
        boolean decode(Bytes bytes, int place, int limit, boolean strict) {
            int behind = decodeIdentifier(bytes, place, limit);
            if (behind == NONE || behind >= limit) {
                return false;
            }
            int first = bytes.at(behind);
            open = first == OPEN_LENGTH;
            size = 0;
            contents = behind + 1;
            if (open) {
                return constructed && !strict;
            }
            if (first < OPEN_LENGTH) {
                size = first;
            } else if (!decodeLongLength(bytes, first - MORE, limit, strict)) {
                return false;
            }
            return size <= limit - contents;
        }

        /** Answers the place behind the identifier, or NONE. */
        private int decodeIdentifier(Bytes bytes, int place, int limit) {
            if (place >= limit) {
                return NONE;
            }
            int first = bytes.at(place);
            kind = first >> 6;
            constructed = (first & CONSTRUCTED_BIT) != 0;
            tag = first & 31;
            return tag < LONG_NUMBER ? place + 1 : decodeLongNumber(bytes, place + 1, limit);
        }

        private int decodeLongNumber(Bytes bytes, int place, int limit) {
            if ((bytes.at(place) & 127) == 0) {
                return NONE;
            }
            long value = 0;
            for (int i = place; i < limit; i++) {
                int next = bytes.at(i);
                // any number of bytes may follow: beyond the greatest it need not grow on
                value = value > GREATEST_NUMBER ? value : value * 128 + (next & 127);
                if (next < MORE) {
                    tag = value > GREATEST_NUMBER ? -1 : (int) value;
                    return value < LONG_NUMBER ? NONE : i + 1;
                }
            }
            return NONE;
        }

        /** The length stands in so many bytes from contents on; contents moves behind them. */
        private boolean decodeLongLength(Bytes bytes, int many, int limit, boolean strict) {
            if (many > limit - contents) {
                return false;
            }
            boolean beginsWithZero = bytes.at(contents) == 0;
            for (int i = 0; i < many; i++) {
                // beyond what a tape holds it need not grow on, and stays too long
                size = size > MOST_BYTES ? size : size * 256 + bytes.at(contents + i);
            }
            contents += many;
            return !strict || (!beginsWithZero && size >= 128);
        }
    }

    /** The values of one reading, with the bytes that were read. */
    private static final class Nodes {
        private final Bytes bytes;
        private final Header header;
        /** Eight ints a node, one behind another. */
        private int[] rows;
        private int many;
        private boolean strict;

        Nodes() {
            bytes = new Bytes();
            header = new Header();
            rows = new int[FIRST_NODES * FIELDS];
            many = 0;
            strict = false;
        }

        int size() {
            return many;
        }

        boolean has(int n) {
            return n >= 0 && n < many;
        }

        int get(int n, int field) {
            int i = indexOf(n, field);
            return i >= 0 && i < rows.length ? rows[i] : 0;
        }

        /** Whether the tape is just one value; if not, what is here then is of no use. */
        boolean layOut(Bytes tape, boolean asStrict) {
            bytes.become(tape);
            strict = asStrict;
            many = 0;
            int behind = layOutValue(0, bytes.size(), NONE, 1);
            return behind != NONE && behind == bytes.size();
        }

        boolean holdsNumber(int n) {
            int size = get(n, SIZE);
            if (size < 1 || size > LONG_BYTES) {
                return false;
            }
            if (size == 1) {
                return true;
            }
            int nineBits = contentsAt(n, 0) * 2 + (contentsAt(n, 1) >> 7);
            return nineBits != 0 && nineBits != 511;
        }

        long signedContents(int n) {
            long value = contentsAt(n, 0) >= 128 ? -1 : 0;
            int size = Math.min(get(n, SIZE), LONG_BYTES);
            for (int i = 0; i < size; i++) {
                value = (value << 8) | contentsAt(n, i);
            }
            return value;
        }

        int orderOf(int a, int b) {
            int longer = Math.min(MOST_BYTES, Math.max(get(a, SIZE), get(b, SIZE)));
            for (int i = 0; i < longer; i++) {
                int order = Integer.compare(contentsAt(a, i), contentsAt(b, i));
                if (order != 0) {
                    return order;
                }
            }
            return 0;
        }

        private int contentsAt(int n, int i) {
            return i >= 0 && i < get(n, SIZE) ? bytes.at(get(n, CONTENTS) + i) : 0;
        }

        private int indexOf(int n, int field) {
            return has(n) && field >= 0 && field < FIELDS ? n * FIELDS + field : NONE;
        }

        private void put(int n, int field, int value) {
            int i = indexOf(n, field);
            if (i >= 0 && i < rows.length) {
                rows[i] = value;
            }
        }

        /** Answers the place behind the value that begins at place, or NONE. */
        private int layOutValue(int place, int limit, int parent, int deep) {
            if (deep > MOST_DEEP || many >= MOST_NODES || !header.decode(bytes, place, limit, strict)) {
                return NONE;
            }
            int n = enter(place, parent);
            int contents = header.contents;
            if (header.open) {
                int behind = layOutUpToZeros(contents, limit, n, deep + 1);
                if (behind == NONE) {
                    return NONE;
                }
                put(n, SIZE, behind - contents);
                return behind + 2;
            }
            int behind = contents + header.size;
            if (header.constructed && !layOutUpTo(contents, behind, n, deep + 1)) {
                return NONE;
            }
            return behind;
        }

        /** Whether values stand from place to limit, without a gap. */
        private boolean layOutUpTo(int place, int limit, int parent, int deep) {
            int at = place;
            for (int i = 0; i < MOST_BYTES && at != NONE && at < limit; i++) {
                at = layOutValue(at, limit, parent, deep);
            }
            return at == limit;
        }

        /** Answers where the two zeros stand that end the values from place on, or NONE. */
        private int layOutUpToZeros(int place, int limit, int parent, int deep) {
            int at = place;
            for (int i = 0; i < MOST_BYTES && at != NONE && at < limit - 1; i++) {
                if (bytes.at(at) == 0 && bytes.at(at + 1) == 0) {
                    return at;
                }
                at = layOutValue(at, limit, parent, deep);
            }
            return NONE;
        }

        /** Makes a node of what the header was decoded to. */
        private int enter(int place, int parent) {
            int n = many;
            if ((n + 1) * FIELDS > rows.length) {
                rows = Arrays.copyOf(rows, Math.min(MOST_NODES * FIELDS, 2 * rows.length));
            }
            many = n + 1;
            put(n, CLASS, header.kind);
            put(n, NUMBER, header.tag);
            put(n, CONSTRUCTED, header.constructed ? 1 : 0);
            put(n, PLACE, place);
            put(n, CONTENTS, header.contents);
            put(n, SIZE, header.size);
            put(n, PARENT, parent);
            put(n, CHILDREN, 0);
            put(parent, CHILDREN, get(parent, CHILDREN) + 1);
            return n;
        }
    }
}

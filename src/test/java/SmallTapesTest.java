import java.math.BigInteger;
import java.util.ArrayList;
import java.util.Arrays;
import java.util.List;

/**
 * Promises 4 and 5: every short tape of some bytes is read. What is due is found the other way
 * round: the end is given, and the document's words are asked of all ways to split what is before it.
 */
public final class SmallTapesTest {
    private static final int NO_PART = -2;
    private static final int OPEN = -1;
    /** An object has 512 calls; one tape here needs far fewer than 200. */
    private static final int ENOUGH_CALLS = 300;

    private final int[] tape;
    private final boolean strict;

    private static RuleReader reader = new RuleReader();
    private static int calls = 0;
    private static int values = 0;

    private SmallTapesTest(int[] tape, boolean strict) {
        this.tape = tape;
        this.strict = strict;
    }

    public static void main(String[] args) {
        int[] every = new int[256];
        for (int i = 0; i < 256; i++) {
            every[i] = i;
        }
        for (int length = 0; length <= 2; length++) {
            readAll(every, new int[length], 0);
        }
        for (int length = 3; length <= 5; length++) {
            readAll(new int[] {0, 1, 2, 4, 0x1f, 0x20, 0x3f, 0x80, 0x81, 0x82}, new int[length], 0);
        }
        for (int length = 6; length <= 7; length++) {
            readAll(new int[] {0, 1, 2, 0x20, 0x80}, new int[length], 0);
        }
        for (int length = 8; length <= 10; length++) {
            readAll(new int[] {0, 0x20, 0x80}, new int[length], 0);
        }
        Check.due("thousands of the readings found a value (1)", 1, values > 4000 ? 1 : 0);
        Check.finish();
    }

    private static void readAll(int[] bytes, int[] tape, int from) {
        if (from == tape.length) {
            readOne(tape);
            return;
        }
        for (int b : bytes) {
            tape[from] = b;
            readAll(bytes, tape, from + 1);
        }
    }

    private static void readOne(int[] tape) {
        if (calls > ENOUGH_CALLS) {
            reader = new RuleReader();
            calls = 0;
        }
        byte[] bytes = new byte[tape.length];
        for (int i = 0; i < tape.length; i++) {
            bytes[i] = (byte) tape[i];
        }
        Check.load(reader, bytes);
        calls += 3;
        read(tape, false);
        read(tape, true);
    }

    private static void read(int[] tape, boolean strict) {
        List<int[]> due = new SmallTapesTest(tape, strict).value(0, tape.length);
        String want = due == null ? "UnsupportedOperationException" : "answers " + due.size();
        String got = Check.outcome(() -> reader.read(strict));
        calls++;
        boolean same = got.equals(want);
        for (int n = 0; same && due != null && n < due.size(); n++) {
            for (int what = 0; what < 8; what++) {
                calls++;
                same = same && reader.node(n, what) == due.get(n)[what];
            }
        }
        values += due == null ? 0 : 1;
        Check.due("read(" + strict + ") of " + Arrays.toString(tape) + " " + got + ", due is " + want
            + ", and the same nodes (1)", 1, same ? 1 : 0);
    }

    /** The nodes, if the bytes from i up to j are one value; else null. */
    private List<int[]> value(int i, int j) {
        for (int length = i + 1; length < j; length++) {
            long number = numberOf(i, length);
            for (int contents = length + 1; number != NO_PART && contents <= j; contents++) {
                long size = sizeOf(length, contents);
                boolean ended = size == OPEN ? endsOpen(i, contents, j) : size == j - contents;
                if (size != NO_PART && ended) {
                    return whole(i, (int) number, contents, size == OPEN ? j - 2 : j, size == OPEN);
                }
            }
        }
        return null;
    }

    private boolean endsOpen(int i, int contents, int j) {
        return !strict && isConstructed(i) && j - contents >= 2 && tape[j - 2] == 0 && tape[j - 1] == 0;
    }

    private boolean isConstructed(int i) {
        return tape[i] / 32 % 2 == 1;
    }

    private List<int[]> whole(int i, int number, int contents, int end, boolean open) {
        List<int[]> within = isConstructed(i) ? values(contents, end, open) : new ArrayList<>();
        if (within == null) {
            return null;
        }
        int[] node = {tape[i] / 64, number, isConstructed(i) ? 1 : 0, i, contents, end - contents, -1, 0};
        List<int[]> all = new ArrayList<>();
        all.add(node);
        for (int[] other : within) {
            node[7] += other[6] == -1 ? 1 : 0;
            other[6]++;
            all.add(other);
        }
        return all;
    }

    /** The nodes, if the bytes from i up to j are values one behind another; else null. */
    private List<int[]> values(int i, int j, boolean open) {
        if (i == j) {
            return new ArrayList<>();
        }
        // such a one would have ended here already
        if (open && tape[i] == 0 && tape[i + 1] == 0) {
            return null;
        }
        for (int next = i + 1; next <= j; next++) {
            List<int[]> first = value(i, next);
            List<int[]> rest = first == null ? null : values(next, j, open);
            if (rest != null) {
                for (int[] other : rest) {
                    other[6] += other[6] == -1 ? 0 : first.size();
                }
                first.addAll(rest);
                return first;
            }
        }
        return null;
    }

    /** The number, if the bytes from i up to j are an identifier; -1 if it is too great. */
    private long numberOf(int i, int j) {
        int low = tape[i] % 32;
        if (low < 31) {
            return j == i + 1 ? low : NO_PART;
        }
        BigInteger number = BigInteger.ZERO;
        for (int p = i + 1; p < j; p++) {
            if (tape[p] >= 128 != p < j - 1) {
                return NO_PART;
            }
            number = number.multiply(BigInteger.valueOf(128)).add(BigInteger.valueOf(tape[p] % 128));
        }
        if (j == i + 1 || tape[i + 1] % 128 == 0 || number.compareTo(BigInteger.valueOf(31)) < 0) {
            return NO_PART;
        }
        return number.bitLength() > 31 ? -1 : number.longValue();
    }

    /** The length, if the bytes from i up to j are one. */
    private long sizeOf(int i, int j) {
        if (tape[i] <= 128) {
            return j > i + 1 ? NO_PART : tape[i] < 128 ? tape[i] : OPEN;
        }
        if (j - i - 1 != tape[i] - 128) {
            return NO_PART;
        }
        BigInteger size = BigInteger.ZERO;
        for (int p = i + 1; p < j; p++) {
            size = size.multiply(BigInteger.valueOf(256)).add(BigInteger.valueOf(tape[p]));
        }
        boolean shortest = size.bitLength() > 7 && (size.bitLength() + 7) / 8 == j - i - 1;
        return strict && !shortest ? NO_PART : size.min(BigInteger.valueOf(5000)).longValue();
    }
}

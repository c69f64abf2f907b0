/**
 * Sets of characters as rows of ranges, with what is alike, what is not in them, and the rows of
 * ranges of bytes that UTF-8 makes of them.
 */
public final class CharRows {
    public static final int NONE = -1;

    private static final int LAST_CHARACTER = 1114111;
    private static final int LAST_BEFORE_GAP = 55295;
    private static final int FIRST_BEHIND_GAP = 57344;

    /** From, to, and how much less those are that they are alike to. */
    private static final int[] LETTERS = {
        97, 122, 32,
        224, 246, 32,
        248, 254, 32,
        945, 969, 32,
        1072, 1103, 32,
        1104, 1119, 80,
    };

    /** Two by two; 963 with 931 is among LETTERS already. */
    private static final int[] PAIRS = {
        962, 963,
        107, 8490,
        115, 383,
        229, 8491,
        181, 956,
    };

    /**
     * More than any range has: 12 at most, as it has no more than 1, 3, 5 and 7 by length of bytes
     * and the gap parts those of one and two bytes from those of four.
     */
    private static final int MOST_ROWS_OF_A_RANGE = 16;

    private Ranges held;
    private Ranges spare;
    private final Ranges kept;

    public CharRows() {
        held = new Ranges();
        spare = new Ranges();
        kept = new Ranges();
    }

    public int add(int low, int high) throws IllegalArgumentException {
        if (low < 0 || high < low || high > LAST_CHARACTER) {
            throw new IllegalArgumentException("not a range of 0 .. 1114111");
        }
        putCharacters(held, low, high);
        return held.count;
    }

    public void clear() {
        held.empty();
    }

    public int fold() {
        // No character stands in two couples of LETTERS or in two PAIRS, and the longest chain goes
        // by letters, pair, letters (930, 962, 963, 931): one more turn would bring nothing.
        foldLetters();
        foldPairs();
        foldLetters();
        return held.count;
    }

    public int turn() {
        Ranges before = held;
        Ranges turned = spare;
        turned.empty();
        int from = 0;
        for (int k = 0; k < before.count; k++) {
            putCharacters(turned, from, before.lows[k] - 1);
            from = before.highs[k] + 1;
        }
        putCharacters(turned, from, LAST_CHARACTER);
        held = turned;
        spare = before;
        return held.count;
    }

    public void keep() {
        kept.become(held);
    }

    public int join() {
        for (int k = 0; k < kept.count; k++) {
            held.put(kept.lows[k], kept.highs[k]);
        }
        return held.count;
    }

    public boolean has(int c) {
        return held.holds(c);
    }

    public int ranges() {
        return held.count;
    }

    public int range(int k, int which) {
        if (k < 0 || k >= held.count) {
            return NONE;
        }
        if (which == 0) {
            return held.lows[k];
        }
        return which == 1 ? held.highs[k] : NONE;
    }

    public int rows() {
        int sum = 0;
        for (int k = 0; k < held.count; k++) {
            sum += countRows(held.lows[k], held.highs[k]);
        }
        return sum;
    }

    public int row(int k, int i, int which) {
        int first = firstOfRow(k);
        if (first == NONE) {
            return NONE;
        }
        int length = byteCount(first);
        if (i == 0) {
            return length;
        }
        if (i < 0 || i > length) {
            return NONE;
        }
        if (which == 0) {
            return byteOf(first, length, i);
        }
        return which == 1 ? byteOf(lastOfRow(first, held.endAround(first)), length, i) : NONE;
    }

    public boolean takes(int bytes, int n) {
        if (n < 1 || n > 4) {
            return false;
        }
        // The rows take the bytes of the set's characters and no others, so none need be looked at.
        int c = decode(bytes, n);
        return held.holds(c) && byteCount(c) == n && startsWithBytesOf(c, bytes, n);
    }

    private static void putCharacters(Ranges target, int low, int high) {
        target.put(low, Math.min(high, LAST_BEFORE_GAP));
        target.put(Math.max(low, FIRST_BEHIND_GAP), high);
    }

    private void foldLetters() {
        for (int t = 0; t + 2 < LETTERS.length; t += 3) {
            int less = LETTERS[t + 2];
            for (int c = LETTERS[t]; c <= LETTERS[t + 1]; c++) {
                foldTwo(c, c - less);
            }
        }
    }

    private void foldPairs() {
        for (int t = 0; t + 1 < PAIRS.length; t += 2) {
            foldTwo(PAIRS[t], PAIRS[t + 1]);
        }
    }

    private void foldTwo(int one, int other) {
        boolean hasOne = held.holds(one);
        if (hasOne != held.holds(other)) {
            int missing = hasOne ? other : one;
            held.put(missing, missing);
        }
    }

    private static int countRows(int low, int high) {
        int c = low;
        int count = 0;
        while (count < MOST_ROWS_OF_A_RANGE && c <= high) {
            c = lastOfRow(c, high) + 1;
            count++;
        }
        return count;
    }

    /** The first character of ROW k; NONE if there is no such row. */
    private int firstOfRow(int k) {
        if (k < 0) {
            return NONE;
        }
        int before = k;
        for (int r = 0; r < held.count; r++) {
            int inThis = countRows(held.lows[r], held.highs[r]);
            if (before < inThis) {
                return skipRows(held.lows[r], held.highs[r], before);
            }
            before -= inThis;
        }
        return NONE;
    }

    private static int skipRows(int low, int high, int skipped) {
        int c = low;
        for (int s = 0; s < skipped; s++) {
            c = lastOfRow(c, high) + 1;
        }
        return c;
    }

    /** The last character of the row that begins at first, in a range that ends at high. */
    private static int lastOfRow(int first, int high) {
        int length = byteCount(first);
        int limit = Math.min(high, lastOfLength(length));
        if (length == 1) {
            return limit;
        }
        // In a row that is one run, all bytes behind one that varies are whole (128 .. 191): the
        // earlier the byte that varies, the longer the run.
        for (int i = 1; i < length; i++) {
            int block = 1 << 6 * (length - i);
            int within = Math.min(limit, first | 64 * block - 1);
            int last = (within + 1 & -block) - 1;
            if ((first & block - 1) == 0 && last >= first) {
                return last;
            }
        }
        return Math.min(limit, first | 63);
    }

    private static int byteCount(int c) {
        if (c <= lastOfLength(1)) {
            return 1;
        }
        if (c <= lastOfLength(2)) {
            return 2;
        }
        return c <= lastOfLength(3) ? 3 : 4;
    }

    private static int lastOfLength(int length) {
        switch (length) {
            case 1:
                return 127;
            case 2:
                return 2047;
            case 3:
                return 65535;
            default:
                return LAST_CHARACTER;
        }
    }

    /** The i-th byte, 1 on, of the length bytes that UTF-8 makes of c. */
    private static int byteOf(int c, int length, int i) {
        int rest = c >> 6 * (length - i);
        if (i > 1) {
            return 128 | rest & 63;
        }
        return length == 1 ? rest : leadMark(length) | rest;
    }

    /** As many ones as there are bytes, from the byte's highest bit on. */
    private static int leadMark(int length) {
        return 0xFF00 >> length & 0xFF;
    }

    private static int byteAt(int bytes, int i) {
        return bytes >>> 32 - 8 * i & 0xFF;
    }

    /** What n bytes would tell if they were UTF-8: whether they are, is for the caller to see. */
    private static int decode(int bytes, int n) {
        int c = byteAt(bytes, 1);
        if (n > 1) {
            c &= 0xFF >> n + 1;
        }
        for (int i = 2; i <= n; i++) {
            c = c << 6 | byteAt(bytes, i) & 63;
        }
        return c;
    }

    private static boolean startsWithBytesOf(int c, int bytes, int n) {
        for (int i = 1; i <= n; i++) {
            if (byteOf(c, n, i) != byteAt(bytes, i)) {
                return false;
            }
        }
        return true;
    }

    /** Ranges of characters from the lowest on, no two of which touch. */
    private static final class Ranges {
        /**
         * 512 calls can't make more than 651: an add brings at most two places where the set begins
         * or ends, the alike ones have 274 such places in all, and the ends of all characters and
         * the gap in them make two ranges more. What would go beyond is left out.
         */
        private static final int MOST = 768;

        private final int[] lows;
        private final int[] highs;
        private int count;

        private Ranges() {
            lows = new int[MOST];
            highs = new int[MOST];
            count = 0;
        }

        private void empty() {
            count = 0;
        }

        private void become(Ranges other) {
            System.arraycopy(other.lows, 0, lows, 0, other.count);
            System.arraycopy(other.highs, 0, highs, 0, other.count);
            count = other.count;
        }

        private boolean holds(int c) {
            int k = firstEndingFrom(c);
            return k < count && lows[k] <= c;
        }

        /** The end of the range that holds c; c itself if none does. */
        private int endAround(int c) {
            int k = firstEndingFrom(c);
            return k < count && lows[k] <= c ? highs[k] : c;
        }

        /** Which range is the first that does not end before c; count if all do. */
        private int firstEndingFrom(int c) {
            int from = 0;
            int to = count;
            while (from < to) {
                int middle = from + to >>> 1;
                if (highs[middle] < c) {
                    from = middle + 1;
                } else {
                    to = middle;
                }
            }
            return from;
        }

        /** low .. high come to the ranges, with no number in them that is no character. */
        private void put(int low, int high) {
            if (low > high) {
                return;
            }
            int first = firstEndingFrom(low - 1);
            int behind = first;
            while (behind < count && lows[behind] <= high + 1) {
                behind++;
            }
            if (first == behind) {
                insert(first, low, high);
            } else {
                unite(first, behind, low, high);
            }
        }

        private void insert(int k, int low, int high) {
            if (count >= MOST) {
                return;
            }
            shift(k, k + 1);
            lows[k] = low;
            highs[k] = high;
        }

        /** The ranges first .. behind - 1, of which there is one at least, and low .. high get one. */
        private void unite(int first, int behind, int low, int high) {
            lows[first] = Math.min(lows[first], low);
            highs[first] = Math.max(highs[behind - 1], high);
            shift(behind, first + 1);
        }

        /** The ranges from k on stand from target on. */
        private void shift(int k, int target) {
            System.arraycopy(lows, k, lows, target, count - k);
            System.arraycopy(highs, k, highs, target, count - k);
            count += target - k;
        }
    }
}

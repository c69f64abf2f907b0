import java.nio.charset.StandardCharsets;
import java.util.ArrayList;
import java.util.Arrays;
import java.util.BitSet;
import java.util.HashMap;
import java.util.List;
import java.util.Map;
import java.util.Random;
import java.util.TreeSet;
import java.util.function.ToIntFunction;

/**
 * Long runs of calls against a model that follows the document's words one character at a time. The
 * seed is fixed, so each run is the same every time. As nothing is promised behind an object's
 * 512th call, further questions go to a new object on which all changes are made again.
 */
public final class CharRowsModelTest {
    private static final int LAST = Due.LAST;
    private static final int RUNS = 60;
    private static final int MOST_CALLS = 512;
    private static final Map<Integer, TreeSet<Integer>> ALIKE = alike();

    private final Random random;
    private final String name;
    private final List<ToIntFunction<CharRows>> changes = new ArrayList<>();
    private CharRows x = new CharRows();
    private int calls = 0;
    private BitSet set = new BitSet();
    private BitSet kept = new BitSet();

    private CharRowsModelTest(int run) {
        random = new Random(run);
        name = "run " + run;
    }

    public static void main(String[] args) {
        for (int run = 0; run < RUNS && Due.countOfWrong() < 20; run++) {
            new CharRowsModelTest(run).play();
        }
        new CharRowsModelTest(RUNS).crowd();
        Due.end();
    }

    private int change(ToIntFunction<CharRows> call) {
        int got = call.applyAsInt(asked());
        changes.add(call);
        return got;
    }

    /** The object for the next call; there must be fewer changes than an object has calls. */
    private CharRows asked() {
        if (calls == MOST_CALLS) {
            x = new CharRows();
            for (ToIntFunction<CharRows> call : changes) {
                call.applyAsInt(x);
            }
            calls = changes.size();
        }
        calls++;
        return x;
    }

    /** As many ranges as 512 calls can make, or nearly: every second letter, then many others. */
    private void crowd() {
        for (int c = 97; c < 1120; c += 2) {
            if (ALIKE.containsKey(c) && ALIKE.get(c).first() != c) {
                addRange(c, c);
            }
        }
        for (int c = 3000; changes.size() < MOST_CALLS - 10; c += 100) {
            addRange(c, c);
        }
        fold();
        keep();
        turn();
        compareRanges();
        compareRows();
        turn();
        join();
        compareRanges();
    }

    private void play() {
        int steps = 20 + random.nextInt(200);
        for (int s = 0; s < steps && Due.countOfWrong() < 20; s++) {
            step();
            ask();
            if (random.nextInt(60) == 0) {
                compareRows();
            }
        }
        compareRanges();
        compareRows();
    }

    private void step() {
        switch (random.nextInt(16)) {
            case 0:
                turn();
                break;
            case 1:
                fold();
                break;
            case 2:
                keep();
                break;
            case 3:
                join();
                break;
            case 4:
                if (random.nextInt(4) == 0) {
                    clear();
                }
                break;
            default:
                add();
        }
    }

    private void add() {
        int low = somewhere();
        addRange(low, random.nextInt(6) == 0 ? somewhere() : low + random.nextInt(40));
    }

    private void addRange(int low, int high) {
        boolean refused = low < 0 || high < low || high > LAST;
        try {
            int got = change(o -> o.add(low, high));
            due("add refused " + low + ", " + high, 0, refused ? 1 : 0);
            for (int c = low; c <= high; c++) {
                if (isCharacter(c)) {
                    set.set(c);
                }
            }
            due("add " + low + ", " + high, got, rangesOf(set).size());
        } catch (IllegalArgumentException e) {
            due("add refused " + low + ", " + high, 1, refused ? 1 : 0);
        }
    }

    private void fold() {
        BitSet folded = (BitSet) set.clone();
        for (Map.Entry<Integer, TreeSet<Integer>> one : ALIKE.entrySet()) {
            if (set.get(one.getKey())) {
                for (int other : one.getValue()) {
                    folded.set(other);
                }
            }
        }
        set = folded;
        due("fold", change(CharRows::fold), rangesOf(set).size());
    }

    private void turn() {
        set.flip(0, LAST + 1);
        set.clear(55296, 57344);
        due("turn", change(CharRows::turn), rangesOf(set).size());
    }

    private void keep() {
        change(o -> {
            o.keep();
            return 0;
        });
        kept = (BitSet) set.clone();
    }

    private void join() {
        set.or(kept);
        due("join", change(CharRows::join), rangesOf(set).size());
    }

    private void clear() {
        change(o -> {
            o.clear();
            return 0;
        });
        set = new BitSet();
    }

    private void ask() {
        int c = somewhere();
        due("has " + c, asked().has(c) ? 1 : 0, c >= 0 && set.get(c) ? 1 : 0);
        due("ranges", asked().ranges(), rangesOf(set).size());
        if (c >= 0 && c <= LAST && isCharacter(c)) {
            byte[] bytes = utf8(c);
            int packed = random.nextInt();
            for (int i = 0; i < bytes.length; i++) {
                int shift = 24 - 8 * i;
                packed = packed & ~(255 << shift) | (bytes[i] & 255) << shift;
            }
            askTakes(packed, bytes.length);
            askTakes(packed ^ 1 << random.nextInt(32), bytes.length);
            askTakes(packed, random.nextInt(7) - 1);
        }
    }

    private void askTakes(int bytes, int n) {
        boolean want = false;
        if (n >= 1 && n <= 4) {
            byte[] first = new byte[n];
            for (int i = 0; i < n; i++) {
                first[i] = (byte) (bytes >> 24 - 8 * i);
            }
            String text = new String(first, StandardCharsets.UTF_8);
            want = text.codePointCount(0, text.length()) == 1
                && Arrays.equals(text.getBytes(StandardCharsets.UTF_8), first)
                && set.get(text.codePointAt(0));
        }
        due("takes " + Integer.toHexString(bytes) + ", " + n, asked().takes(bytes, n) ? 1 : 0,
            want ? 1 : 0);
    }

    private void compareRanges() {
        List<int[]> want = rangesOf(set);
        due("ranges", asked().ranges(), want.size());
        for (int k = 0; k < want.size(); k++) {
            due("range " + k + ", 0", asked().range(k, 0), want.get(k)[0]);
            due("range " + k + ", 1", asked().range(k, 1), want.get(k)[1]);
        }
    }

    private void compareRows() {
        int k = 0;
        for (int[] range : rangesOf(set)) {
            for (int first = range[0]; first <= range[1]; k++) {
                int last = lastOfRow(first, range[1]);
                byte[] low = utf8(first);
                byte[] high = utf8(last);
                due("row " + k, asked().row(k, 0, 0), low.length);
                for (int i = 1; i <= low.length; i++) {
                    due("row " + k + ", " + i + ", 0", asked().row(k, i, 0), low[i - 1] & 255);
                    due("row " + k + ", " + i + ", 1", asked().row(k, i, 1), high[i - 1] & 255);
                }
                first = last + 1;
            }
        }
        due("rows", asked().rows(), k);
        due("row behind", asked().row(k, 0, 0), -1);
    }

    /** A row takes just the run's bytes if it takes as many as the run has characters. */
    private static int lastOfRow(int first, int end) {
        byte[] start = utf8(first);
        int[] low = new int[4];
        int[] high = new int[4];
        for (int i = 0; i < start.length; i++) {
            low[i] = start[i] & 255;
            high[i] = start[i] & 255;
        }
        int longest = first;
        for (int c = first; c <= end; c++) {
            byte[] bytes = utf8(c);
            if (bytes.length != start.length) {
                break;
            }
            long taken = 1;
            for (int i = 0; i < bytes.length; i++) {
                low[i] = Math.min(low[i], bytes[i] & 255);
                high[i] = Math.max(high[i], bytes[i] & 255);
                taken *= high[i] - low[i] + 1;
            }
            if (taken == c - first + 1) {
                longest = c;
            }
        }
        return longest;
    }

    private static List<int[]> rangesOf(BitSet set) {
        List<int[]> ranges = new ArrayList<>();
        int low = set.nextSetBit(0);
        while (low >= 0) {
            int behind = set.nextClearBit(low);
            ranges.add(new int[] {low, behind - 1});
            low = set.nextSetBit(behind);
        }
        return ranges;
    }

    private int somewhere() {
        int[] edges = {0, 65, 97, 127, 181, 192, 224, 247, 383, 913, 945, 962, 1024, 1072, 1104,
            2047, 4096, 8490, 55295, 57344, 65535, 262144, 1048576, LAST};
        switch (random.nextInt(4)) {
            case 0:
                return random.nextInt(LAST + 1);
            case 1:
                return random.nextInt(1200);
            case 2:
                return 64 * random.nextInt(1500) + random.nextInt(3) - 1;
            default:
                return edges[random.nextInt(edges.length)] + random.nextInt(9) - 4;
        }
    }

    private static boolean isCharacter(int c) {
        return c < 55296 || c > 57343;
    }

    private static byte[] utf8(int c) {
        return new String(Character.toChars(c)).getBytes(StandardCharsets.UTF_8);
    }

    private static Map<Integer, TreeSet<Integer>> alike() {
        Map<Integer, TreeSet<Integer>> all = new HashMap<>();
        for (int c = 0; c < 1200; c++) {
            boolean less32 = c >= 'a' && c <= 'z' || c >= 224 && c <= 254 && c != 247
                || c >= 945 && c <= 969 || c >= 1072 && c <= 1103;
            if (less32) {
                tie(all, c, c - 32);
            }
            if (c >= 1104 && c <= 1119) {
                tie(all, c, c - 80);
            }
        }
        tie(all, 962, 963);
        tie(all, 962, 931);
        tie(all, 107, 8490);
        tie(all, 115, 383);
        tie(all, 229, 8491);
        tie(all, 181, 956);
        return all;
    }

    private static void tie(Map<Integer, TreeSet<Integer>> all, int one, int other) {
        TreeSet<Integer> both = new TreeSet<>(List.of(one, other));
        both.addAll(all.getOrDefault(one, new TreeSet<>()));
        both.addAll(all.getOrDefault(other, new TreeSet<>()));
        for (int c : both) {
            all.put(c, both);
        }
    }

    private void due(String what, long got, long want) {
        Due.answer(name + ": " + what, got, want);
    }
}

import java.util.ArrayList;
import java.util.List;

/**
 * Each sentence of the document that names a boundary case, at the edge itself and at the numbers
 * next to it on both sides. No object is asked for more than 512 answers.
 */
public final class CharRowsEdgesTest {
    private static final int LAST = Due.LAST;
    private static final int MIN = Integer.MIN_VALUE;
    private static final int MAX = Integer.MAX_VALUE;

    public static void main(String[] args) {
        lastCalls();
        callsBehindTheLast();
        characters();
        noneAtFirst();
        asFewAsMayBe();
        asFewAfterFoldTurnAndJoin();
        fromTheLowestOn();
        noCharacterPartsRanges();
        noneKeptAtFirst();
        alikeLatin();
        alikeGreek();
        alikeCyrillic();
        alikePairs();
        oneToFourRangesOfBytes();
        bytesAtTheEndsOfTheirRanges();
        eachRangeHasRowsOfItsOwn();
        longestRuns();
        leastLength();
        addRefusesLow();
        addRefusesHighBelowLow();
        addRefusesHigh();
        addRefusedChangesNothing();
        clearOfNoneAndAll();
        foldOfNoneAndAll();
        turnOfNoneAndAll();
        turnAtTheEnds();
        keepOfNoneAndAll();
        joinOfNoneAndAll();
        hasWhatIsNoCharacter();
        rangesOfNone();
        rangeNoneSuch();
        rangeAnotherWhich();
        rowsOfNone();
        rowNoneSuch();
        rowNoSuchRangeOfBytes();
        rowAnotherWhich();
        rowWhichDoesNotCount();
        takesOtherCounts();
        takesTheFirstBytes();
        takesJustThese();
        takesOneAndTwoBytes();
        takesThreeBytes();
        takesFourBytes();
        takesOfNone();
        Due.end();
    }

    // What it is: "An object is used for at most 512 calls after it has been made"
    private static void lastCalls() {
        for (int before = 510; before <= 511; before++) {
            String call = "call " + (before + 1) + ": ";
            Due.answer(call + "add", crowded(before).add(10, 20), before + 1);
            Due.answer(call + "fold", crowded(before).fold(), before);
            Due.answer(call + "turn", crowded(before).turn(), before + 2);
            Due.answer(call + "join", crowded(before).join(), before);
            Due.answer(call + "has", crowded(before).has(19998 + 2 * before), true);
            Due.answer(call + "has not", crowded(before).has(20000 + 2 * before), false);
            Due.answer(call + "ranges", crowded(before).ranges(), before);
            Due.answer(call + "range", crowded(before).range(before - 1, 0), 19998 + 2 * before);
            Due.answer(call + "no range", crowded(before).range(before, 0), -1);
            Due.answer(call + "rows", crowded(before).rows(), before);
            Due.answer(call + "row", crowded(before).row(before - 1, 0, 0), 3);
            Due.answer(call + "no row", crowded(before).row(before, 0, 0), -1);
            Due.answer(call + "takes", crowded(before).takes(0xe4b8a000, 3), true);
            Due.refused(crowded(before), -1, 4);
        }
        CharRows cleared = crowded(510);
        cleared.clear();
        Due.answer("cleared by call 511", cleared.ranges(), 0);
        CharRows joined = crowded(508);
        joined.keep();
        joined.turn();
        Due.answer("joined by call 511", joined.join(), 2);
        Due.answer("call 512 behind it", joined.rows(), 9);
    }

    private static void callsBehindTheLast() {
        for (int before = 512; before <= 514; before++) {
            CharRows x = crowded(before);
            x.turn();
            x.fold();
            x.keep();
            x.join();
            x.rows();
            x.row(before, 1, 1);
            x.range(before, 1);
            x.takes(0x61000000, 1);
            x.clear();
        }
    }

    /** So many calls, each of which has brought a range; 0x4e20 = 20000 is e4 b8 a0. */
    private static CharRows crowded(int calls) {
        CharRows x = new CharRows();
        for (int a = 0; a < calls; a++) {
            x.add(20000 + 2 * a, 20000 + 2 * a);
        }
        return x;
    }

    // Terms: "CHARACTERS are 0 .. 1114111 but 55296 .. 57343."
    private static void characters() {
        int[] are = {0, 1, 55294, 55295, 57344, 57345, LAST - 1, LAST};
        for (int c : are) {
            Due.answer("add of " + c, single(c).ranges(), 1);
            Due.answer("has of " + c, single(c).has(c), true);
            Due.answer("all has " + c, all().has(c), true);
        }
        int[] areNone = {55296, 55297, 57342, 57343};
        for (int c : areNone) {
            Due.answer("add of " + c, single(c).ranges(), 0);
            Due.answer("has of " + c, single(c).has(c), false);
            Due.answer("all has " + c, all().has(c), false);
            Due.answer("rows of " + c, single(c).rows(), 0);
        }
        Due.answer("all has -1", all().has(-1), false);
        Due.answer("all has 1114112", all().has(LAST + 1), false);
    }

    // Terms: "THE SET, none at first"; Promise 1: "No characters"
    private static void noneAtFirst() {
        Due.ranges("at first", new CharRows());
        Due.rows("at first", new CharRows());
        CharRows x = new CharRows();
        int[] some = {-1, 0, 1, 97, 55295, 55296, 57343, 57344, LAST, LAST + 1};
        for (int c : some) {
            Due.answer("at first: has(" + c + ")", x.has(c), false);
        }
    }

    // Terms: "RANGES: as few as may be"
    private static void asFewAsMayBe() {
        Due.ranges("overlapping from above", of(10, 20, 20, 30), 10, 30);
        Due.ranges("touching from above", of(10, 20, 21, 30), 10, 30);
        Due.ranges("apart from above", of(10, 20, 22, 30), 10, 20, 22, 30);
        Due.ranges("overlapping from below", of(10, 20, 5, 10), 5, 20);
        Due.ranges("touching from below", of(10, 20, 5, 9), 5, 20);
        Due.ranges("apart from below", of(10, 20, 5, 8), 5, 8, 10, 20);
        Due.ranges("the same", of(10, 20, 10, 20), 10, 20);
        Due.ranges("one less", of(10, 20, 11, 19), 10, 20);
        Due.ranges("one more", of(10, 20, 9, 21), 9, 21);
        Due.ranges("closing a gap", of(10, 20, 22, 30, 21, 21), 10, 30);
        Due.ranges("closing half of a gap of two", of(10, 20, 23, 30, 21, 21), 10, 21, 23, 30);
        Due.ranges("closing two gaps", of(10, 20, 22, 30, 32, 40, 21, 31), 10, 40);
        Due.ranges("all but the ends", of(1, 1, 3, 3, 5, 5, 7, 7, 3, 5), 1, 1, 3, 5, 7, 7);
        Due.ranges("at 0", of(1, 1, 0, 0), 0, 1);
        Due.ranges("near 0", of(2, 2, 0, 0), 0, 0, 2, 2);
        Due.ranges("at the last", of(LAST - 1, LAST - 1, LAST, LAST), LAST - 1, LAST);
        Due.ranges("near the last", of(LAST - 2, LAST - 2, LAST, LAST),
            LAST - 2, LAST - 2, LAST, LAST);
    }

    private static void asFewAfterFoldTurnAndJoin() {
        CharRows folded = of(65, 65, 96, 96);
        Due.answer("96 .. 97 after fold", folded.fold(), 2);
        Due.ranges("96 .. 97 after fold", folded, 65, 65, 96, 97);
        CharRows closed = of(91, 122);
        Due.answer("65 .. 122 after fold", closed.fold(), 3);
        Due.ranges("65 .. 122 after fold", closed, 65, 122, 383, 383, 8490, 8490);
        Due.answer("touching after join", keptAnd(10, 20, 21, 30).join(), 1);
        Due.answer("apart after join", keptAnd(10, 20, 22, 30).join(), 2);
        Due.answer("touching from below after join", keptAnd(10, 20, 5, 9).join(), 1);
        Due.answer("apart from below after join", keptAnd(10, 20, 5, 8).join(), 2);
        CharRows turned = of(10, 20, 22, 30);
        Due.answer("one number between", turned.turn(), 4);
        Due.ranges("one number between", turned, 0, 9, 21, 21, 31, 55295, 57344, LAST);
    }

    // Terms: "from the lowest one on"
    private static void fromTheLowestOn() {
        Due.ranges("downwards", of(300, 310, 200, 210, 100, 110), 100, 110, 200, 210, 300, 310);
        Due.ranges("the middle last", of(300, 310, 100, 110, 200, 210),
            100, 110, 200, 210, 300, 310);
        Due.ranges("the ends", of(LAST, LAST, 0, 0), 0, 0, LAST, LAST);
    }

    // Terms: "a number that is no character parts two ranges"
    private static void noCharacterPartsRanges() {
        Due.ranges("both sides", of(55295, 57344), 55295, 55295, 57344, 57344);
        Due.ranges("both sides, one by one", of(55295, 55295, 57344, 57344),
            55295, 55295, 57344, 57344);
        Due.ranges("one side and none", of(55295, 57343), 55295, 55295);
        Due.ranges("none and one side", of(55296, 57344), 57344, 57344);
        Due.ranges("none", of(55296, 57343));
        Due.ranges("one more on each side", of(55294, 57345), 55294, 55295, 57344, 57345);
        Due.ranges("the gap between", of(55290, 55295, 57344, 57350, 55296, 57343),
            55290, 55295, 57344, 57350);
        Due.ranges("all", of(0, LAST), 0, 55295, 57344, LAST);
        CharRows joined = keptAnd(55295, 55295, 57344, 57344);
        Due.answer("both sides by join", joined.join(), 2);
        Due.ranges("both sides by join", joined, 55295, 55295, 57344, 57344);
    }

    // Terms: "Another set may be KEPT (none is, at first)."; Promise 1: "none are kept"
    private static void noneKeptAtFirst() {
        Due.answer("join at first", new CharRows().join(), 0);
        CharRows x = of(10, 20);
        Due.answer("join when none was kept", x.join(), 1);
        Due.ranges("join when none was kept", x, 10, 20);
        x.clear();
        Due.answer("what was added is not kept", x.join(), 0);
        CharRows before = of(10, 20);
        before.keep();
        Due.answer("what another object keeps", new CharRows().join(), 0);
    }

    // Terms: "a .. z and A .. Z by letters; 224 .. 254 (but 247) and those 32 less"
    private static void alikeLatin() {
        alone(63, 64, 91, 92, 95, 96, 123, 124);
        alike(65, 97);
        alike(66, 98);
        alike(89, 121);
        alike(90, 122);
        alone(190, 191, 215, 223, 247, 255, 256);
        alike(192, 224);
        alike(193, 225);
        alike(213, 245);
        alike(214, 246);
        alike(216, 248);
        alike(217, 249);
        alike(221, 253);
        alike(222, 254);
    }

    // Terms: "945 .. 969 and those 32 less; 962 with 963 and 931"
    private static void alikeGreek() {
        alone(911, 912, 938, 939, 943, 944, 970, 971);
        alike(913, 945);
        alike(914, 946);
        alike(936, 968);
        alike(937, 969);
        alike(929, 961);
        alike(932, 964);
        for (int c : new int[] {930, 931, 962, 963}) {
            CharRows x = single(c);
            Due.answer("fold of " + c, x.fold(), 2);
            Due.ranges("fold of " + c, x, 930, 931, 962, 963);
        }
    }

    // Terms: "1072 .. 1103 and those 32 less; 1104 .. 1119 and those 80 less"
    private static void alikeCyrillic() {
        alone(1022, 1023, 1120, 1121);
        alike(1024, 1104);
        alike(1025, 1105);
        alike(1038, 1118);
        alike(1039, 1119);
        alike(1040, 1072);
        alike(1041, 1073);
        alike(1070, 1102);
        alike(1071, 1103);
    }

    // Terms: "107 with 8490, 115 with 383, 229 with 8491, 181 with 956; and what is alike to any"
    private static void alikePairs() {
        alike(74, 106);
        alike(75, 107, 8490);
        alike(76, 108);
        alike(82, 114);
        alike(83, 115, 383);
        alike(84, 116);
        alike(196, 228);
        alike(197, 229, 8491);
        alike(198, 230);
        alike(923, 955);
        alike(181, 924, 956);
        alike(925, 957);
        alone(180, 182, 382, 384, 8488, 8489, 8492, 8493);
        CharRows both = of(8490, 8491);
        Due.answer("fold of 8490 .. 8491", both.fold(), 5);
        Due.ranges("fold of 8490 .. 8491", both,
            75, 75, 107, 107, 197, 197, 229, 229, 8490, 8491);
        alone(0, 149, 1264, 65313, 65345, 65536 + 97, LAST);
    }

    private static void alone(int... characters) {
        for (int c : characters) {
            alike(c);
        }
    }

    /** Each of them folds to all of them; no two are neighbours. */
    private static void alike(int... members) {
        int[] ends = new int[2 * members.length];
        for (int e = 0; e < ends.length; e++) {
            ends[e] = members[e / 2];
        }
        for (int c : members) {
            CharRows x = single(c);
            Due.answer("fold of " + c, x.fold(), members.length);
            Due.ranges("fold of " + c, x, ends);
            Due.answer("second fold of " + c, x.fold(), members.length);
            Due.ranges("second fold of " + c, x, ends);
        }
    }

    // Terms: "A ROW is one to four ranges of bytes"
    private static void oneToFourRangesOfBytes() {
        Due.rows("0", single(0), "00-00");
        Due.rows("1", single(1), "01-01");
        Due.rows("126", single(126), "7e-7e");
        Due.rows("127", single(127), "7f-7f");
        Due.rows("128", single(128), "c2-c2 80-80");
        Due.rows("129", single(129), "c2-c2 81-81");
        Due.rows("2046", single(2046), "df-df be-be");
        Due.rows("2047", single(2047), "df-df bf-bf");
        Due.rows("2048", single(2048), "e0-e0 a0-a0 80-80");
        Due.rows("2049", single(2049), "e0-e0 a0-a0 81-81");
        Due.rows("55294", single(55294), "ed-ed 9f-9f be-be");
        Due.rows("55295", single(55295), "ed-ed 9f-9f bf-bf");
        Due.rows("57344", single(57344), "ee-ee 80-80 80-80");
        Due.rows("57345", single(57345), "ee-ee 80-80 81-81");
        Due.rows("65534", single(65534), "ef-ef bf-bf be-be");
        Due.rows("65535", single(65535), "ef-ef bf-bf bf-bf");
        Due.rows("65536", single(65536), "f0-f0 90-90 80-80 80-80");
        Due.rows("65537", single(65537), "f0-f0 90-90 80-80 81-81");
        Due.rows("1114110", single(LAST - 1), "f4-f4 8f-8f bf-bf be-be");
        Due.rows("1114111", single(LAST), "f4-f4 8f-8f bf-bf bf-bf");
    }

    // Terms: "it takes bytes each of which is in its range"
    private static void bytesAtTheEndsOfTheirRanges() {
        takesWithin(of(0x3c, 0x46), 1, 0x3c000000, 0x46000000);
        takesWithin(of(0x82, 0x8c), 2, 0xc2820000, 0xc28c0000);
        takesWithin(of(0xc0, 0x7bf), 2, 0xc3800000, 0xdebf0000);
        takesWithin(of(0x2345, 0x2355), 3, 0xe28d8500, 0xe28d9500);
        takesWithin(of(0x2340, 0x25ff), 3, 0xe28d8000, 0xe297bf00);
        takesWithin(of(0x2000, 0x6fff), 3, 0xe2808000, 0xe6bfbf00);
        takesWithin(of(0x54321, 0x54331), 4, 0xf1948ca1, 0xf1948cb1);
        takesWithin(of(0x54340, 0x545ff), 4, 0xf1948d80, 0xf19497bf);
        takesWithin(of(0x54000, 0x5ffff), 4, 0xf1948080, 0xf19fbfbf);
        takesWithin(of(0x80000, 0xbffff), 4, 0xf2808080, 0xf2bfbfbf);
    }

    /** x has one row, from the n bytes of low to those of high. */
    private static void takesWithin(CharRows x, int n, int low, int high) {
        Due.answer("rows", x.rows(), 1);
        for (int i = 1; i <= n; i++) {
            int least = byteAt(low, i);
            int most = byteAt(high, i);
            Due.answer("row(0, " + i + ", 0)", x.row(0, i, 0), least);
            Due.answer("row(0, " + i + ", 1)", x.row(0, i, 1), most);
            dueTakes(x, withByte(low, i, least - 1), n, false);
            dueTakes(x, withByte(low, i, least), n, true);
            dueTakes(x, withByte(low, i, least + 1), n, least < most);
            dueTakes(x, withByte(low, i, most - 1), n, least < most);
            dueTakes(x, withByte(low, i, most), n, true);
            dueTakes(x, withByte(low, i, most + 1), n, false);
            dueTakes(x, withByte(high, i, least - 1), n, false);
            dueTakes(x, withByte(high, i, least), n, true);
            dueTakes(x, withByte(high, i, most + 1), n, false);
        }
    }

    // Terms: "THE ROWS of the set: of each range, from its lowest character on"
    private static void eachRangeHasRowsOfItsOwn() {
        Due.rows("two of one byte", of(97, 97, 99, 99), "61-61", "63-63");
        Due.rows("one of one byte", of(97, 97, 98, 98), "61-62");
        Due.rows("beside the gap", of(55295, 57344), "ed-ed 9f-9f bf-bf", "ee-ee 80-80 80-80");
        Due.rows("two of two bytes", of(192, 255, 320, 383), "c3-c3 80-bf", "c5-c5 80-bf");
        Due.rows("one of two bytes", of(192, 255, 256, 319), "c3-c4 80-bf");
        Due.rows("upwards though added downwards", of(0x20ac, 0x20ac, 97, 97),
            "61-61", "e2-e2 82-82 ac-ac");
    }

    // Terms: "each time the longest run of characters from there"
    private static void longestRuns() {
        List<Integer> edges = new ArrayList<>();
        int[] starts = {64, 128, 192, 1984, 2048, 2112, 4032, 4096, 4160, 8192, 53248, 55232,
            55296, 57344, 61440, 65472, 65536, 69632, 258048, 262144, 266240, 524288, 1048576,
            1110016, 1114048};
        edges.add(0);
        edges.add(1);
        for (int start : starts) {
            edges.add(start - 1);
            edges.add(start);
            edges.add(start + 1);
        }
        edges.add(LAST - 1);
        edges.add(LAST);
        for (int low : edges) {
            for (int high : edges) {
                if (low <= high) {
                    dueSplit(low, high);
                }
            }
        }
    }

    private static void dueSplit(int low, int high) {
        List<int[]> runs = new ArrayList<>();
        split(low, Math.min(high, 55295), runs);
        split(Math.max(low, 57344), high, runs);
        String[] rows = new String[runs.size()];
        for (int k = 0; k < rows.length; k++) {
            rows[k] = textOf(runs.get(k)[0], runs.get(k)[1]);
        }
        Due.rows(low + " .. " + high, of(low, high), rows);
    }

    /** Halves what no row can take as one, rather than searching for the longest run. */
    private static void split(int low, int high, List<int[]> runs) {
        if (low > high) {
            return;
        }
        for (int last : new int[] {127, 2047, 65535}) {
            if (low <= last && last < high) {
                splitAt(low, last, high, runs);
                return;
            }
        }
        for (int bits = 6; bits <= 18 && high > 127; bits += 6) {
            int below = (1 << bits) - 1;
            if ((low | below) != (high | below)) {
                if ((low & below) != 0) {
                    splitAt(low, low | below, high, runs);
                    return;
                }
                if ((high & below) != below) {
                    splitAt(low, (high & ~below) - 1, high, runs);
                    return;
                }
            }
        }
        runs.add(new int[] {low, high});
    }

    private static void splitAt(int low, int middle, int high, List<int[]> runs) {
        split(low, middle, runs);
        split(middle + 1, high, runs);
    }

    private static String textOf(int first, int last) {
        int n = first < 128 ? 1 : first < 2048 ? 2 : first < 65536 ? 3 : 4;
        StringBuilder text = new StringBuilder();
        for (int i = 1; i <= n; i++) {
            text.append(i == 1 ? "" : " ");
            text.append(String.format("%02x-%02x", utf8(first, n, i), utf8(last, n, i)));
        }
        return text.toString();
    }

    private static int utf8(int c, int n, int i) {
        int[] marks = {0, 0xc0, 0xe0, 0xf0};
        int rest = c >> 6 * (n - i);
        return i == 1 ? marks[n - 1] + rest : 0x80 + rest % 64;
    }

    // Terms: "whose bytes (UTF-8, of least length)"
    private static void leastLength() {
        dueTakes(all(), 0x7f000000, 1, true);
        dueTakes(all(), 0xc1bf0000, 2, false);
        dueTakes(all(), 0xc2800000, 2, true);
        dueTakes(all(), 0xdfbf0000, 2, true);
        dueTakes(all(), 0xe09fbf00, 3, false);
        dueTakes(all(), 0xe0a08000, 3, true);
        dueTakes(all(), 0xefbfbf00, 3, true);
        dueTakes(all(), 0xf08fbfbf, 4, false);
        dueTakes(all(), 0xf0908080, 4, true);
        dueTakes(all(), 0xf48fbfbf, 4, true);
        dueTakes(all(), 0xf4908080, 4, false);
        dueTakes(single(97), 0x61000000, 1, true);
        dueTakes(single(97), 0xc1a10000, 2, false);
        dueTakes(single(97), 0xe081a100, 3, false);
        dueTakes(single(97), 0xf08081a1, 4, false);
    }

    // Promise 2: "IllegalArgumentException: low is below 0"
    private static void addRefusesLow() {
        CharRows x = new CharRows();
        Due.refused(x, MIN, 0);
        Due.refused(x, -2, 0);
        Due.refused(x, -1, 0);
        Due.refused(x, -1, -1);
        Due.refused(x, -1, LAST);
        Due.answer("add(0, 0)", x.add(0, 0), 1);
        Due.answer("add(1, 1)", x.add(1, 1), 1);
        Due.ranges("low from 0 on", x, 0, 1);
    }

    // Promise 2: "high below low"
    private static void addRefusesHighBelowLow() {
        int[] lows = {1, 98, 55296, 57343, 57344, LAST};
        for (int low : lows) {
            CharRows x = new CharRows();
            Due.refused(x, low, low - 1);
            Due.refused(x, low, 0);
            Due.refused(x, low, -1);
            Due.refused(x, low, MIN);
            Due.ranges("high below " + low, x);
        }
        Due.refused(new CharRows(), 0, -1);
        Due.answer("add(98, 98)", new CharRows().add(98, 98), 1);
        Due.answer("add(98, 99)", new CharRows().add(98, 99), 1);
        Due.answer("add(55296, 55296)", new CharRows().add(55296, 55296), 0);
        Due.answer("add(55296, 57343)", new CharRows().add(55296, 57343), 0);
    }

    // Promise 2: "or above 1114111"
    private static void addRefusesHigh() {
        CharRows x = new CharRows();
        Due.refused(x, 0, LAST + 1);
        Due.refused(x, LAST, LAST + 1);
        Due.refused(x, LAST + 1, LAST + 1);
        Due.refused(x, LAST + 1, LAST + 2);
        Due.refused(x, LAST + 1, LAST);
        Due.refused(x, 0, LAST + 2);
        Due.refused(x, 0, MAX);
        Due.refused(x, MAX, MAX);
        Due.refused(x, MIN, MAX);
        Due.refused(x, MAX, MIN);
        Due.answer("add(1114110, 1114110)", x.add(LAST - 1, LAST - 1), 1);
        Due.answer("add(1114111, 1114111)", x.add(LAST, LAST), 1);
        Due.ranges("high up to 1114111", x, LAST - 1, LAST);
    }

    private static void addRefusedChangesNothing() {
        CharRows x = of(5, 6);
        x.keep();
        x.clear();
        x.add(10, 20);
        Due.refused(x, -1, 30);
        Due.refused(x, 9, 8);
        Due.refused(x, 30, LAST + 1);
        Due.ranges("after refusals", x, 10, 20);
        Due.answer("what is kept after refusals", x.join(), 2);
        Due.ranges("what is kept after refusals", x, 5, 6, 10, 20);
    }

    // Promise 3: "The set has no characters."
    private static void clearOfNoneAndAll() {
        CharRows none = new CharRows();
        none.clear();
        Due.ranges("clear of none", none);
        CharRows x = all();
        x.keep();
        x.clear();
        Due.ranges("clear of all", x);
        Due.rows("clear of all", x);
        Due.answer("has(0) after clear", x.has(0), false);
        Due.answer("has(1114111) after clear", x.has(LAST), false);
        Due.answer("takes after clear", x.takes(0x61000000, 1), false);
        Due.answer("add after clear", x.add(0, 0), 1);
        Due.ranges("add after clear", x, 0, 0);
        Due.answer("what is kept after clear", x.join(), 2);
    }

    // Promise 4: "All that are alike to one of the set come besides"
    private static void foldOfNoneAndAll() {
        CharRows none = new CharRows();
        Due.answer("fold of none", none.fold(), 0);
        Due.ranges("fold of none", none);
        CharRows all = all();
        Due.answer("fold of all", all.fold(), 2);
        Due.ranges("fold of all", all, 0, 55295, 57344, LAST);
        CharRows besides = of(64, 91);
        Due.answer("fold of 64 .. 91", besides.fold(), 4);
        Due.ranges("fold of 64 .. 91", besides, 64, 91, 97, 122, 383, 383, 8490, 8490);
        CharRows kept = keptAnd(97, 97, 98, 98);
        kept.fold();
        kept.clear();
        Due.answer("fold leaves what is kept", kept.join(), 1);
        Due.ranges("fold leaves what is kept", kept, 97, 97);
        CharRows allButOne = of(97, 97);
        allButOne.turn();
        Due.answer("fold of all but one", allButOne.fold(), 2);
        CharRows allButAlike = of(75, 75, 107, 107, 8490, 8490);
        allButAlike.turn();
        Due.answer("fold of all but those alike", allButAlike.fold(), 5);
    }

    // Promise 5: "The set is those characters that were not in it"
    private static void turnOfNoneAndAll() {
        CharRows x = new CharRows();
        Due.answer("turn of none", x.turn(), 2);
        Due.ranges("turn of none", x, 0, 55295, 57344, LAST);
        Due.answer("turn of all", x.turn(), 0);
        Due.ranges("turn of all", x);
        Due.answer("turn of none again", x.turn(), 2);
        Due.ranges("turn of none again", x, 0, 55295, 57344, LAST);
        Due.ranges("without what is no character", turned(55296, 57343), 0, 55295, 57344, LAST);
    }

    private static void turnAtTheEnds() {
        Due.ranges("without 0", turned(0, 0), 1, 55295, 57344, LAST);
        Due.ranges("without 1", turned(1, 1), 0, 0, 2, 55295, 57344, LAST);
        Due.ranges("without 1114110", turned(LAST - 1, LAST - 1),
            0, 55295, 57344, LAST - 2, LAST, LAST);
        Due.ranges("without 1114111", turned(LAST, LAST), 0, 55295, 57344, LAST - 1);
        Due.ranges("without 55294", turned(55294, 55294), 0, 55293, 55295, 55295, 57344, LAST);
        Due.ranges("without 55295", turned(55295, 55295), 0, 55294, 57344, LAST);
        Due.ranges("without 57344", turned(57344, 57344), 0, 55295, 57345, LAST);
        Due.ranges("without 57345", turned(57345, 57345), 0, 55295, 57344, 57344, 57346, LAST);
        Due.ranges("all but 0", turned(1, LAST), 0, 0);
        Due.ranges("all but 1114111", turned(0, LAST - 1), LAST, LAST);
        Due.ranges("all but both ends", turned(1, LAST - 1), 0, 0, LAST, LAST);
        Due.ranges("those behind the gap", turned(0, 55295), 57344, LAST);
        Due.ranges("those behind the gap and one", turned(0, 55294), 55295, 55295, 57344, LAST);
        Due.ranges("those before the gap", turned(57344, LAST), 0, 55295);
        Due.ranges("those before the gap and one", turned(57345, LAST), 0, 55295, 57344, 57344);
        CharRows changed = turned(10, 20);
        changed.add(15, 15);
        Due.answer("turned, added to, turned", changed.turn(), 2);
        Due.ranges("turned, added to, turned", changed, 10, 14, 16, 20);
        CharRows cleared = turned(10, 20);
        cleared.clear();
        Due.answer("turned, cleared, turned", cleared.turn(), 2);
        Due.answer("and turned", cleared.turn(), 0);
        CharRows kept = keptAnd(10, 20, 30, 40);
        kept.turn();
        kept.turn();
        Due.ranges("turned twice", kept, 30, 40);
        kept.clear();
        Due.answer("turn leaves what is kept", kept.join(), 1);
        Due.ranges("turn leaves what is kept", kept, 10, 20);
    }

    // Promise 6: "The set is kept, instead of what was kept."
    private static void keepOfNoneAndAll() {
        CharRows x = of(10, 20);
        x.keep();
        Due.ranges("keep leaves the set", x, 10, 20);
        x.clear();
        x.keep();
        Due.answer("none is kept instead", x.join(), 0);
        x.turn();
        x.keep();
        x.clear();
        Due.answer("all are kept instead", x.join(), 2);
        Due.ranges("all are kept instead", x, 0, 55295, 57344, LAST);
        x.clear();
        x.add(30, 40);
        x.keep();
        x.clear();
        Due.answer("fewer are kept instead", x.join(), 1);
        Due.ranges("fewer are kept instead", x, 30, 40);
    }

    // Promise 7: "Those that are kept come to the set"
    private static void joinOfNoneAndAll() {
        CharRows x = of(10, 20);
        x.keep();
        Due.answer("join of the same", x.join(), 1);
        x.turn();
        Due.answer("join of all others", x.join(), 2);
        Due.ranges("join of all others", x, 0, 55295, 57344, LAST);
        Due.answer("join to all", x.join(), 2);
        x.clear();
        Due.answer("join to none", x.join(), 1);
        Due.ranges("join to none", x, 10, 20);
        CharRows all = all();
        all.keep();
        all.clear();
        all.add(50, 60);
        Due.answer("join of all", all.join(), 2);
        Due.ranges("join of all", all, 0, 55295, 57344, LAST);
        CharRows between = keptAnd(15, 25, 10, 12);
        between.add(26, 30);
        Due.answer("join between two", between.join(), 2);
        Due.ranges("join between two", between, 10, 12, 15, 30);
    }

    // Promise 8: "false also if it is none"
    private static void hasWhatIsNoCharacter() {
        int[] none = {MIN, MIN + 1, -LAST, -97, -2, -1, 55296, 55297, 56320, 57342, 57343,
            LAST + 1, LAST + 2, 1 << 21, MAX - 1, MAX};
        for (int c : none) {
            Due.answer("all: has(" + c + ")", all().has(c), false);
        }
        CharRows x = of(10, 20);
        Due.answer("has(9)", x.has(9), false);
        Due.answer("has(10)", x.has(10), true);
        Due.answer("has(11)", x.has(11), true);
        Due.answer("has(19)", x.has(19), true);
        Due.answer("has(20)", x.has(20), true);
        Due.answer("has(21)", x.has(21), false);
    }

    // Promise 9: "How many ranges it has."
    private static void rangesOfNone() {
        Due.answer("ranges of none", new CharRows().ranges(), 0);
        Due.answer("ranges of one", single(0).ranges(), 1);
        Due.answer("ranges of all", all().ranges(), 2);
        Due.answer("ranges of three", of(1, 1, 3, 3, 5, 5).ranges(), 3);
    }

    // Promise 10: "NONE if there is none such"
    private static void rangeNoneSuch() {
        CharRows x = of(10, 20, 30, 40, 50, 60);
        int[] none = {MIN, MIN + 1, -2, -1, 3, 4, 512, 767, 768, 769, 1 << 16, MAX - 1, MAX};
        for (int k : none) {
            Due.answer("range(" + k + ", 0)", x.range(k, 0), CharRows.NONE);
            Due.answer("range(" + k + ", 1)", x.range(k, 1), CharRows.NONE);
        }
        int[] ends = {10, 20, 30, 40, 50, 60};
        for (int e = 0; e < ends.length; e++) {
            Due.answer("range(" + e / 2 + ", " + e % 2 + ")", x.range(e / 2, e % 2), ends[e]);
        }
        CharRows empty = new CharRows();
        for (int k = -1; k <= 1; k++) {
            Due.answer("none: range(" + k + ", 0)", empty.range(k, 0), CharRows.NONE);
            Due.answer("none: range(" + k + ", 1)", empty.range(k, 1), CharRows.NONE);
        }
        x.clear();
        Due.answer("cleared: range(0, 0)", x.range(0, 0), CharRows.NONE);
        Due.answer("cleared: range(2, 1)", x.range(2, 1), CharRows.NONE);
    }

    // Promise 10: "or for another which"
    private static void rangeAnotherWhich() {
        CharRows x = of(10, 20, 30, 40);
        int[] others = {MIN, -2, -1, 2, 3, 256, 257, MAX};
        for (int which : others) {
            for (int k = -1; k <= 2; k++) {
                Due.answer("range(" + k + ", " + which + ")", x.range(k, which), CharRows.NONE);
            }
        }
        Due.answer("range(1, 0)", x.range(1, 0), 30);
        Due.answer("range(1, 1)", x.range(1, 1), 40);
    }

    // Promise 11: "How many ROWS it has."
    private static void rowsOfNone() {
        Due.answer("rows of none", new CharRows().rows(), 0);
        Due.answer("rows of what is no character", of(55296, 57343).rows(), 0);
        Due.answer("rows of one", single(97).rows(), 1);
        Due.answer("rows of all", all().rows(), 9);
        Due.answer("rows of all but both ends", of(1, LAST - 1).rows(), 11);
        Due.answer("rows of 0 .. 127", of(0, 127).rows(), 1);
        Due.answer("rows of 0 .. 128", of(0, 128).rows(), 2);
        Due.answer("rows of 127 .. 2047", of(127, 2047).rows(), 2);
        Due.answer("rows of 127 .. 2048", of(127, 2048).rows(), 3);
    }

    // Promise 12: "NONE if there is none such", of the rows
    private static void rowNoneSuch() {
        CharRows x = of(97, 122, 0xe9, 0xe9, 0x20ac, 0x20ac);
        int[] none = {MIN, MIN + 1, -2, -1, 3, 4, 16, 512, 1 << 16, MAX - 1, MAX};
        for (int k : none) {
            for (int i = 0; i <= 3; i++) {
                String call = "row(" + k + ", " + i + ", ";
                Due.answer(call + "0)", x.row(k, i, 0), CharRows.NONE);
                Due.answer(call + "1)", x.row(k, i, 1), CharRows.NONE);
                Due.answer(call + "2)", x.row(k, i, 2), CharRows.NONE);
            }
        }
        Due.answer("row(0, 0, 0)", x.row(0, 0, 0), 1);
        Due.answer("row(1, 0, 0)", x.row(1, 0, 0), 2);
        Due.answer("row(2, 0, 0)", x.row(2, 0, 0), 3);
        CharRows empty = new CharRows();
        for (int k = -1; k <= 1; k++) {
            Due.answer("none: row(" + k + ", 0, 0)", empty.row(k, 0, 0), CharRows.NONE);
            Due.answer("none: row(" + k + ", 1, 0)", empty.row(k, 1, 0), CharRows.NONE);
            Due.answer("none: row(" + k + ", 1, 1)", empty.row(k, 1, 1), CharRows.NONE);
        }
    }

    // Promise 12: "NONE if there is none such", of a row's ranges of bytes
    private static void rowNoSuchRangeOfBytes() {
        int[] characters = {97, 0xe9, 0x20ac, 0x1f600};
        for (int n = 1; n <= 4; n++) {
            CharRows x = single(characters[n - 1]);
            int[] none = {MIN, MIN + 1, -2, -1, n + 1, n + 2, 5, 32, 33, MAX - 1, MAX};
            for (int i : none) {
                for (int which = -1; which <= 2; which++) {
                    String call = "row(0, " + i + ", " + which + ") of " + n + " bytes";
                    Due.answer(call, x.row(0, i, which), CharRows.NONE);
                }
            }
            for (int i = 1; i <= n; i++) {
                int due = utf8(characters[n - 1], n, i);
                Due.answer("row(0, " + i + ", 0) of " + n + " bytes", x.row(0, i, 0), due);
                Due.answer("row(0, " + i + ", 1) of " + n + " bytes", x.row(0, i, 1), due);
            }
        }
    }

    // Promise 12: "or for another which"
    private static void rowAnotherWhich() {
        CharRows x = of(0x1f600, 0x1f604);
        int[] others = {MIN, -2, -1, 2, 3, 256, 257, MAX};
        for (int which : others) {
            for (int i = 1; i <= 4; i++) {
                String call = "row(0, " + i + ", " + which + ")";
                Due.answer(call, x.row(0, i, which), CharRows.NONE);
            }
        }
        Due.answer("row(0, 4, 0)", x.row(0, 4, 0), 0x80);
        Due.answer("row(0, 4, 1)", x.row(0, 4, 1), 0x84);
    }

    // Promise 12: "(With i = 0 which does not count.)"
    private static void rowWhichDoesNotCount() {
        int[] characters = {97, 0xe9, 0x20ac, 0x1f600};
        int[] every = {MIN, -2, -1, 0, 1, 2, 3, MAX};
        for (int n = 1; n <= 4; n++) {
            CharRows x = single(characters[n - 1]);
            for (int which : every) {
                Due.answer("row(0, 0, " + which + ")", x.row(0, 0, which), n);
                Due.answer("row(-1, 0, " + which + ")", x.row(-1, 0, which), CharRows.NONE);
                Due.answer("row(1, 0, " + which + ")", x.row(1, 0, which), CharRows.NONE);
            }
        }
    }

    // Promise 13: "false also if n is not 1 .. 4"
    private static void takesOtherCounts() {
        int[] others = {MIN, MIN + 1, -32, -31, -4, -3, -2, -1, 0, 5, 6, 8, 32, 33, 36, 257,
            MAX - 1, MAX};
        int[] some = {0, 0x61000000, 0x61616161, 0xc3a90000, 0xe282ac00, 0xf09f9880, 97, -1};
        for (int n : others) {
            CharRows x = all();
            for (int bytes : some) {
                dueTakes(x, bytes, n, false);
            }
        }
        dueTakes(all(), 0x61000000, 1, true);
        dueTakes(all(), 0xc3a90000, 2, true);
        dueTakes(all(), 0xe282ac00, 3, true);
        dueTakes(all(), 0xf09f9880, 4, true);
    }

    // Promise 13: "the first n bytes of bytes, the highest ones first"
    private static void takesTheFirstBytes() {
        dueTakes(single(97), 0x61000000, 1, true);
        dueTakes(single(97), 0x00610000, 1, false);
        dueTakes(single(97), 0x00000061, 1, false);
        dueTakes(single(0xe9), 0xc3a90000, 2, true);
        dueTakes(single(0xe9), 0x0000c3a9, 2, false);
        dueTakes(single(0xe9), 0xa9c30000, 2, false);
        dueTakes(single(0x20ac), 0xe282ac00, 3, true);
        dueTakes(single(0x20ac), 0x00e282ac, 3, false);
        dueTakes(single(0x1f600), 0xf09f9880, 4, true);
        dueTakes(single(0x1f600), 0x80989ff0, 4, false);
        dueTakes(single(97), 0x61ffffff, 1, true);
        dueTakes(single(0xe9), 0xc3a9ffff, 2, true);
        dueTakes(single(0x20ac), 0xe282acff, 3, true);
    }

    // Promise 13: "just these"
    private static void takesJustThese() {
        int[] bytes = {0x61616161, 0xc3a98080, 0xe282ac80, 0xf09f9880};
        int[] characters = {97, 0xe9, 0x20ac, 0x1f600};
        for (int own = 1; own <= 4; own++) {
            for (int n = 0; n <= 5; n++) {
                dueTakes(single(characters[own - 1]), bytes[own - 1], n, n == own);
                dueTakes(all(), bytes[own - 1], n, n == own);
            }
        }
    }

    private static void takesOneAndTwoBytes() {
        for (int first = 0; first < 256; first++) {
            CharRows x = all();
            dueTakes(x, first << 24, 1, first < 0x80);
            for (int second = 0; second < 256; second++) {
                boolean want = first >= 0xc2 && first <= 0xdf && second >= 0x80 && second <= 0xbf;
                dueTakes(x, first << 24 | second << 16, 2, want);
            }
        }
    }

    private static void takesThreeBytes() {
        int[] thirds = {0x00, 0x7f, 0x80, 0x81, 0xbe, 0xbf, 0xc0, 0xff};
        for (int first = 0; first < 256; first++) {
            int least = first == 0xe0 ? 0xa0 : 0x80;
            int most = first == 0xed ? 0x9f : 0xbf;
            for (int third : thirds) {
                CharRows x = all();
                for (int second = 0; second < 256; second++) {
                    boolean want = first >= 0xe0 && first <= 0xef && second >= least
                        && second <= most && third >= 0x80 && third <= 0xbf;
                    dueTakes(x, first << 24 | second << 16 | third << 8, 3, want);
                }
            }
        }
    }

    private static void takesFourBytes() {
        int[] ends = {0x7f, 0x80, 0xbf, 0xc0};
        for (int first = 0x70; first < 256; first++) {
            int least = first == 0xf0 ? 0x90 : 0x80;
            int most = first == 0xf4 ? 0x8f : 0xbf;
            for (int e = 0; e < 16; e++) {
                int third = ends[e / 4];
                int fourth = ends[e % 4];
                boolean whole = third >= 0x80 && third <= 0xbf && fourth >= 0x80 && fourth <= 0xbf;
                CharRows x = all();
                for (int second = 0; second < 256; second++) {
                    boolean want = whole && first >= 0xf0 && first <= 0xf4 && second >= least
                        && second <= most;
                    dueTakes(x, first << 24 | second << 16 | third << 8 | fourth, 4, want);
                }
            }
        }
    }

    private static void takesOfNone() {
        int[] some = {0, 0x61000000, 0xc3a90000, 0xe282ac00, 0xf09f9880, -1};
        CharRows none = new CharRows();
        CharRows noCharacters = of(55296, 57343);
        for (int n = 0; n <= 5; n++) {
            for (int bytes : some) {
                dueTakes(none, bytes, n, false);
                dueTakes(noCharacters, bytes, n, false);
            }
        }
        dueTakes(noCharacters, 0xeda08000, 3, false);
        dueTakes(noCharacters, 0xedbfbf00, 3, false);
    }

    private static CharRows all() {
        return of(0, LAST);
    }

    private static CharRows single(int c) {
        return of(c, c);
    }

    /** ends: the lows and highs that are added, in this order. */
    private static CharRows of(int... ends) {
        CharRows x = new CharRows();
        for (int e = 0; e < ends.length; e += 2) {
            x.add(ends[e], ends[e + 1]);
        }
        return x;
    }

    private static CharRows turned(int low, int high) {
        CharRows x = of(low, high);
        Due.answer("turn of " + low + " .. " + high, x.turn(), x.ranges());
        return x;
    }

    /** The first two numbers are a range that is kept, the others one that is in the set. */
    private static CharRows keptAnd(int keptLow, int keptHigh, int low, int high) {
        CharRows x = of(keptLow, keptHigh);
        x.keep();
        x.clear();
        x.add(low, high);
        return x;
    }

    private static int byteAt(int bytes, int i) {
        return bytes >>> 32 - 8 * i & 255;
    }

    private static int withByte(int bytes, int i, int value) {
        int shift = 32 - 8 * i;
        return bytes & ~(255 << shift) | value << shift;
    }

    private static void dueTakes(CharRows x, int bytes, int n, boolean want) {
        if (x.takes(bytes, n) != want) {
            Due.answer("takes(" + Integer.toHexString(bytes) + ", " + n + ")", !want, want);
        }
    }
}

/** Each promise by itself: ordinary inputs, the edges that the document names, and wrong inputs. */
public final class CharRowsPromisesTest {
    private static final int LAST = Due.LAST;

    public static void main(String[] args) {
        newObject();
        addMerges();
        addAtTheGap();
        addRefuses();
        clear();
        foldLatin();
        foldGreek();
        foldCyrillic();
        foldLeavesOthers();
        turn();
        turnAtTheGap();
        keepAndJoin();
        keepIsACopy();
        has();
        range();
        rowsOfOneByte();
        rowsOfTwoBytes();
        rowsOfThreeBytes();
        rowsOfFourBytes();
        rowsOverLengths();
        rowsBesideTheGap();
        rowAnswersNone();
        takes();
        takesRefuses();
        manyRanges();
        callsBeyondTheLast();
        callsOfTheReadme();
        Due.end();
    }

    // Promise 1
    private static void newObject() {
        CharRows x = new CharRows();
        Due.answer("NONE", CharRows.NONE, -1);
        Due.answer("new: ranges", x.ranges(), 0);
        Due.answer("new: rows", x.rows(), 0);
        Due.answer("new: range(0, 0)", x.range(0, 0), -1);
        Due.answer("new: row(0, 0, 0)", x.row(0, 0, 0), -1);
        Due.answer("new: has(0)", x.has(0), false);
        Due.answer("new: takes(0, 1)", x.takes(0, 1), false);
        Due.answer("new: join", x.join(), 0);
        Due.answer("new: fold", x.fold(), 0);
        CharRows y = new CharRows();
        y.add(5, 6);
        y.keep();
        Due.answer("another new one: ranges", new CharRows().ranges(), 0);
        Due.answer("another new one: join", new CharRows().join(), 0);
    }

    // Promise 2
    private static void addMerges() {
        CharRows x = new CharRows();
        Due.answer("first", x.add(10, 20), 1);
        Due.answer("apart by one", x.add(22, 30), 2);
        Due.ranges("apart by one", x, 10, 20, 22, 30);
        Due.answer("in between", x.add(21, 21), 1);
        Due.ranges("in between", x, 10, 30);
        Due.answer("inside", x.add(12, 13), 1);
        Due.ranges("inside", x, 10, 30);
        Due.answer("below", x.add(0, 0), 2);
        Due.answer("touching from below", x.add(9, 9), 2);
        Due.ranges("touching from below", x, 0, 0, 9, 30);
        Due.answer("touching from above", x.add(31, 40), 2);
        Due.ranges("touching from above", x, 0, 0, 9, 40);
        Due.answer("far above", x.add(LAST, LAST), 3);
        Due.answer("over two of three", x.add(0, 50), 2);
        Due.ranges("over two of three", x, 0, 50, LAST, LAST);
        Due.answer("overlapping", x.add(45, 60), 2);
        Due.ranges("overlapping", x, 0, 60, LAST, LAST);
        Due.answer("between", x.add(100, 200), 3);
        Due.ranges("between", x, 0, 60, 100, 200, LAST, LAST);
        Due.answer("over all but the lowest", x.add(62, LAST), 3);
        Due.ranges("over all but the lowest", x, 0, 60, 62, 55295, 57344, LAST);
    }

    private static void addAtTheGap() {
        CharRows x = new CharRows();
        Due.answer("none that is a character", x.add(55296, 57343), 0);
        Due.answer("one that is no character", x.add(56000, 56000), 0);
        Due.answer("the last before", x.add(55295, 55296), 1);
        Due.ranges("the last before", x, 55295, 55295);
        Due.answer("the first behind", x.add(57343, 57344), 2);
        Due.ranges("the first behind", x, 55295, 55295, 57344, 57344);
        Due.answer("over the gap", x.add(55000, 58000), 2);
        Due.ranges("over the gap", x, 55000, 55295, 57344, 58000);
        CharRows all = new CharRows();
        Due.answer("all", all.add(0, LAST), 2);
        Due.ranges("all", all, 0, 55295, 57344, LAST);
    }

    private static void addRefuses() {
        CharRows x = new CharRows();
        x.add(10, 20);
        Due.refused(x, -1, 4);
        Due.refused(x, -1, -1);
        Due.refused(x, 5, 4);
        Due.refused(x, 0, LAST + 1);
        Due.refused(x, LAST + 1, LAST + 1);
        Due.refused(x, LAST + 1, LAST);
        Due.refused(x, Integer.MIN_VALUE, Integer.MAX_VALUE);
        Due.refused(x, 0, Integer.MAX_VALUE);
        Due.refused(x, Integer.MAX_VALUE, Integer.MIN_VALUE);
        Due.ranges("after refusals", x, 10, 20);
    }

    // Promise 3
    private static void clear() {
        CharRows x = new CharRows();
        x.add(10, 20);
        x.keep();
        x.add(30, 40);
        x.clear();
        Due.ranges("cleared", x);
        Due.answer("cleared: rows", x.rows(), 0);
        Due.answer("cleared: has", x.has(15), false);
        Due.answer("cleared: what is kept stays", x.join(), 1);
        Due.ranges("cleared, joined", x, 10, 20);
        x.clear();
        x.clear();
        Due.ranges("cleared twice", x);
    }

    // Promise 4
    private static void foldLatin() {
        dueFold(97, 65, 97);
        dueFold(65, 65, 97);
        dueFold(122, 90, 122);
        dueFold(90, 90, 122);
        dueFold(107, 75, 107, 8490);
        dueFold(75, 75, 107, 8490);
        dueFold(8490, 75, 107, 8490);
        dueFold(115, 83, 115, 383);
        dueFold(83, 83, 115, 383);
        dueFold(383, 83, 115, 383);
        dueFold(229, 197, 229, 8491);
        dueFold(197, 197, 229, 8491);
        dueFold(8491, 197, 229, 8491);
        dueFold(224, 192, 224);
        dueFold(192, 192, 224);
        dueFold(246, 214, 246);
        dueFold(248, 216, 248);
        dueFold(216, 216, 248);
        dueFold(254, 222, 254);
        dueFold(222, 222, 254);
        CharRows x = new CharRows();
        x.add(65, 70);
        Due.answer("A .. F folds", x.fold(), 2);
        Due.ranges("A .. F folds", x, 65, 70, 97, 102);
        Due.answer("again", x.fold(), 2);
        Due.ranges("again", x, 65, 70, 97, 102);
    }

    private static void foldGreek() {
        dueFold(945, 913, 945);
        dueFold(913, 913, 945);
        dueFold(969, 937, 969);
        dueFold(937, 937, 969);
        dueFold(181, 181, 924, 956);
        dueFold(924, 181, 924, 956);
        dueFold(956, 181, 924, 956);
        for (int c : new int[] {930, 931, 962, 963}) {
            CharRows x = new CharRows();
            x.add(c, c);
            Due.answer("fold of " + c, x.fold(), 2);
            Due.ranges("fold of " + c, x, 930, 931, 962, 963);
        }
    }

    private static void foldCyrillic() {
        dueFold(1072, 1040, 1072);
        dueFold(1040, 1040, 1072);
        dueFold(1103, 1071, 1103);
        dueFold(1071, 1071, 1103);
        dueFold(1104, 1024, 1104);
        dueFold(1024, 1024, 1104);
        dueFold(1119, 1039, 1119);
        dueFold(1039, 1039, 1119);
    }

    private static void foldLeavesOthers() {
        int[] alone = {0, 64, 91, 96, 123, 180, 182, 191, 215, 223, 247, 255, 382, 384, 912, 938,
            944, 970, 1023, 1120, 8489, 8492, 55295, 57344, LAST};
        for (int c : alone) {
            dueFold(c, c);
        }
        CharRows x = new CharRows();
        x.add(0, LAST);
        Due.answer("fold of all", x.fold(), 2);
        Due.ranges("fold of all", x, 0, 55295, 57344, LAST);
        x.clear();
        x.add(97, 97);
        x.keep();
        x.clear();
        x.add(98, 98);
        x.fold();
        x.clear();
        x.join();
        Due.ranges("fold leaves what is kept", x, 97, 97);
    }

    /** members: single characters, no two of which touch. */
    private static void dueFold(int c, int... members) {
        CharRows x = new CharRows();
        x.add(c, c);
        Due.answer("fold of " + c, x.fold(), members.length);
        int[] ends = new int[2 * members.length];
        for (int m = 0; m < members.length; m++) {
            ends[2 * m] = members[m];
            ends[2 * m + 1] = members[m];
        }
        Due.ranges("fold of " + c, x, ends);
    }

    // Promise 5
    private static void turn() {
        CharRows x = new CharRows();
        Due.answer("turn of none", x.turn(), 2);
        Due.ranges("turn of none", x, 0, 55295, 57344, LAST);
        Due.answer("turn of all", x.turn(), 0);
        Due.ranges("turn of all", x);
        x.add(10, 20);
        x.add(30, 40);
        Due.answer("turn of two", x.turn(), 4);
        Due.ranges("turn of two", x, 0, 9, 21, 29, 41, 55295, 57344, LAST);
        Due.answer("turn back", x.turn(), 2);
        Due.ranges("turn back", x, 10, 20, 30, 40);
        x.add(0, 5);
        x.add(LAST - 3, LAST);
        Due.answer("turn with both ends", x.turn(), 4);
        Due.ranges("turn with both ends", x, 6, 9, 21, 29, 41, 55295, 57344, LAST - 4);
        x.add(7, 7);
        Due.answer("added after a turn", x.turn(), 4);
    }

    private static void turnAtTheGap() {
        CharRows x = new CharRows();
        x.add(55295, 55295);
        Due.answer("without the last before", x.turn(), 2);
        Due.ranges("without the last before", x, 0, 55294, 57344, LAST);
        x.clear();
        x.add(57344, 57344);
        Due.answer("without the first behind", x.turn(), 2);
        Due.ranges("without the first behind", x, 0, 55295, 57345, LAST);
        x.clear();
        x.add(0, 55295);
        Due.answer("all behind", x.turn(), 1);
        Due.ranges("all behind", x, 57344, LAST);
        Due.answer("all before", x.turn(), 1);
        Due.ranges("all before", x, 0, 55295);
        x.clear();
        x.add(55290, 57350);
        Due.answer("without those at the gap", x.turn(), 2);
        Due.ranges("without those at the gap", x, 0, 55289, 57351, LAST);
    }

    // Promises 6 and 7
    private static void keepAndJoin() {
        CharRows x = new CharRows();
        x.add(10, 20);
        Due.answer("none kept: join", x.join(), 1);
        Due.ranges("none kept: join", x, 10, 20);
        x.keep();
        Due.ranges("keep leaves the set", x, 10, 20);
        Due.answer("join of itself", x.join(), 1);
        x.clear();
        x.add(21, 25);
        x.add(40, 50);
        Due.answer("join", x.join(), 2);
        Due.ranges("join", x, 10, 25, 40, 50);
        x.clear();
        Due.answer("join again", x.join(), 1);
        Due.ranges("join again", x, 10, 20);
        x.clear();
        x.add(1, 2);
        x.keep();
        x.clear();
        Due.answer("kept instead", x.join(), 1);
        Due.ranges("kept instead", x, 1, 2);
        x.clear();
        x.keep();
        x.add(7, 8);
        Due.answer("none kept instead", x.join(), 1);
        Due.ranges("none kept instead", x, 7, 8);
        x.add(20, 30);
        x.keep();
        x.turn();
        Due.answer("join to what is not in it", x.join(), 2);
        Due.ranges("join to what is not in it", x, 0, 55295, 57344, LAST);
    }

    private static void keepIsACopy() {
        CharRows x = new CharRows();
        x.add(10, 20);
        x.keep();
        x.add(12, 99);
        x.fold();
        x.turn();
        x.turn();
        x.clear();
        x.add(300, 400);
        x.turn();
        x.clear();
        Due.answer("what is kept stays", x.join(), 1);
        Due.ranges("what is kept stays", x, 10, 20);
        x.add(15, 40);
        x.clear();
        Due.answer("and stays after join", x.join(), 1);
        Due.ranges("and stays after join", x, 10, 20);
    }

    // Promise 8
    private static void has() {
        CharRows x = new CharRows();
        x.add(10, 20);
        x.add(30, 30);
        x.add(55000, LAST);
        int[] in = {10, 15, 20, 30, 55000, 55295, 57344, LAST};
        for (int c : in) {
            Due.answer("has(" + c + ")", x.has(c), true);
        }
        int[] out = {0, 9, 21, 29, 31, 54999, 55296, 56000, 57343, -1, LAST + 1,
            Integer.MIN_VALUE, Integer.MAX_VALUE};
        for (int c : out) {
            Due.answer("has(" + c + ")", x.has(c), false);
        }
    }

    // Promises 9 and 10
    private static void range() {
        CharRows x = new CharRows();
        x.add(30, 40);
        x.add(10, 20);
        Due.answer("ranges", x.ranges(), 2);
        Due.answer("range(0, 0)", x.range(0, 0), 10);
        Due.answer("range(0, 1)", x.range(0, 1), 20);
        Due.answer("range(1, 0)", x.range(1, 0), 30);
        Due.answer("range(1, 1)", x.range(1, 1), 40);
        int[] none = {2, 3, -1, 767, 768, 1000000, Integer.MIN_VALUE, Integer.MAX_VALUE};
        for (int k : none) {
            Due.answer("range(" + k + ", 0)", x.range(k, 0), -1);
            Due.answer("range(" + k + ", 1)", x.range(k, 1), -1);
            Due.answer("range(0, " + k + ")", x.range(0, k), -1);
        }
        x.add(0, 100);
        Due.answer("ranges when they are one", x.ranges(), 1);
        Due.answer("range(1, 0) when they are one", x.range(1, 0), -1);
    }

    // Promises 11 and 12
    private static void rowsOfOneByte() {
        CharRows x = new CharRows();
        x.add(0, 127);
        Due.rows("0 .. 127", x, "00-7f");
        x.clear();
        x.add(60, 70);
        x.add(100, 100);
        Due.rows("60 .. 70, 100", x, "3c-46", "64-64");
    }

    private static void rowsOfTwoBytes() {
        CharRows x = new CharRows();
        x.add(128, 2047);
        Due.rows("128 .. 2047", x, "c2-df 80-bf");
        x.clear();
        x.add(129, 2046);
        Due.rows("129 .. 2046", x, "c2-c2 81-bf", "c3-de 80-bf", "df-df 80-be");
        x.clear();
        x.add(130, 140);
        Due.rows("130 .. 140", x, "c2-c2 82-8c");
        x.clear();
        x.add(191, 192);
        Due.rows("191 .. 192", x, "c2-c2 bf-bf", "c3-c3 80-80");
    }

    private static void rowsOfThreeBytes() {
        CharRows x = new CharRows();
        x.add(2048, 4095);
        Due.rows("2048 .. 4095", x, "e0-e0 a0-bf 80-bf");
        x.clear();
        x.add(0x1001, 0x7ffe);
        Due.rows("1001 .. 7ffe", x, "e1-e1 80-80 81-bf", "e1-e1 81-bf 80-bf", "e2-e6 80-bf 80-bf",
            "e7-e7 80-be 80-bf", "e7-e7 bf-bf 80-be");
        x.clear();
        x.add(0x1040, 0x10ff);
        Due.rows("1040 .. 10ff", x, "e1-e1 81-83 80-bf");
        x.clear();
        x.add(0x1000, 0x1ffe);
        Due.rows("1000 .. 1ffe", x, "e1-e1 80-be 80-bf", "e1-e1 bf-bf 80-be");
    }

    private static void rowsOfFourBytes() {
        CharRows x = new CharRows();
        x.add(0x10000, LAST);
        Due.rows("10000 .. 10ffff", x, "f0-f0 90-bf 80-bf 80-bf", "f1-f3 80-bf 80-bf 80-bf",
            "f4-f4 80-8f 80-bf 80-bf");
        x.clear();
        x.add(0x10001, LAST - 1);
        Due.rows("10001 .. 10fffe", x, "f0-f0 90-90 80-80 81-bf", "f0-f0 90-90 81-bf 80-bf",
            "f0-f0 91-bf 80-bf 80-bf", "f1-f3 80-bf 80-bf 80-bf", "f4-f4 80-8e 80-bf 80-bf",
            "f4-f4 8f-8f 80-be 80-bf", "f4-f4 8f-8f bf-bf 80-be");
        x.clear();
        x.add(LAST, LAST);
        Due.rows("10ffff", x, "f4-f4 8f-8f bf-bf bf-bf");
    }

    private static void rowsOverLengths() {
        CharRows x = new CharRows();
        x.add(127, 128);
        Due.rows("127 .. 128", x, "7f-7f", "c2-c2 80-80");
        x.clear();
        x.add(2047, 2048);
        Due.rows("2047 .. 2048", x, "df-df bf-bf", "e0-e0 a0-a0 80-80");
        x.clear();
        x.add(65535, 65536);
        Due.rows("65535 .. 65536", x, "ef-ef bf-bf bf-bf", "f0-f0 90-90 80-80 80-80");
    }

    private static void rowsBesideTheGap() {
        CharRows x = new CharRows();
        x.add(0xc000, 0xefff);
        Due.rows("c000 .. efff", x, "ec-ec 80-bf 80-bf", "ed-ed 80-9f 80-bf", "ee-ee 80-bf 80-bf");
        x.clear();
        x.add(0xd7ff, 0xe000);
        Due.rows("d7ff .. e000", x, "ed-ed 9f-9f bf-bf", "ee-ee 80-80 80-80");
    }

    private static void rowAnswersNone() {
        CharRows x = new CharRows();
        x.add(97, 122);
        x.add(0x10000, 0x10000);
        Due.answer("rows", x.rows(), 2);
        Due.answer("which does not count with i = 0", x.row(0, 0, 7), 1);
        Due.answer("which does not count with i = 0", x.row(1, 0, Integer.MIN_VALUE), 4);
        int[] none = {2, 3, -1, 100000, Integer.MIN_VALUE, Integer.MAX_VALUE};
        for (int k : none) {
            Due.answer("row(" + k + ", 0, 0)", x.row(k, 0, 0), -1);
            Due.answer("row(" + k + ", 1, 0)", x.row(k, 1, 0), -1);
            Due.answer("row(" + k + ", 1, 1)", x.row(k, 1, 1), -1);
            Due.answer("row(0, 1, " + k + ")", x.row(0, 1, k), -1);
        }
        int[] noByte = {5, 6, -1, Integer.MIN_VALUE, Integer.MAX_VALUE};
        for (int i : noByte) {
            Due.answer("row(1, " + i + ", 0)", x.row(1, i, 0), -1);
            Due.answer("row(1, " + i + ", 1)", x.row(1, i, 1), -1);
        }
        Due.answer("row(0, 2, 0)", x.row(0, 2, 0), -1);
        Due.answer("row(0, 2, 1)", x.row(0, 2, 1), -1);
        Due.answer("row(1, 4, 2)", x.row(1, 4, 2), -1);
    }

    // Promise 13
    private static void takes() {
        CharRows x = new CharRows();
        x.add(97, 122);
        x.add(0xe9, 0xe9);
        x.add(0x20ac, 0x20ac);
        x.add(0x1f600, 0x1f6ff);
        Due.answer("a", x.takes(0x61000000, 1), true);
        Due.answer("A", x.takes(0x41000000, 1), false);
        Due.answer("e acute", x.takes(0xc3a90000, 2), true);
        Due.answer("e grave", x.takes(0xc3a80000, 2), false);
        Due.answer("euro", x.takes(0xe282ac00, 3), true);
        Due.answer("beside euro", x.takes(0xe282ad00, 3), false);
        Due.answer("first face", x.takes(0xf09f9880, 4), true);
        Due.answer("last face", x.takes(0xf09f9bbf, 4), true);
        Due.answer("behind the faces", x.takes(0xf09f9c80, 4), false);
        Due.answer("bytes behind the first n do not count", x.takes(0x61ffffff, 1), true);
        Due.answer("bytes behind the first n do not count", x.takes(0xc3a9ffff, 2), true);
        Due.answer("bytes behind the first n do not count", x.takes(0xe282acff, 3), true);
        Due.answer("too few", x.takes(0xe282ac00, 2), false);
        Due.answer("too few", x.takes(0xf09f9880, 3), false);
        Due.answer("too few", x.takes(0xc3a90000, 1), false);
        Due.answer("too many", x.takes(0x61000000, 2), false);
        Due.answer("too many", x.takes(0x61616161, 4), false);
        Due.answer("too many", x.takes(0xe282ac80, 4), false);
    }

    private static void takesRefuses() {
        CharRows x = new CharRows();
        x.add(0, LAST);
        int[] noCount = {0, -1, 5, 6, Integer.MIN_VALUE, Integer.MAX_VALUE};
        for (int n : noCount) {
            Due.answer("takes(a, " + n + ")", x.takes(0x61616161, n), false);
            Due.answer("takes(0, " + n + ")", x.takes(0, n), false);
        }
        Due.answer("0", x.takes(0, 1), true);
        Due.answer("7f", x.takes(0x7f000000, 1), true);
        Due.answer("80", x.takes(0x80000000, 1), false);
        Due.answer("ff", x.takes(0xff000000, 1), false);
        Due.answer("not of least length: c0 80", x.takes(0xc0800000, 2), false);
        Due.answer("not of least length: c1 bf", x.takes(0xc1bf0000, 2), false);
        Due.answer("not of least length: e0 9f bf", x.takes(0xe09fbf00, 3), false);
        Due.answer("not of least length: f0 8f bf bf", x.takes(0xf08fbfbf, 4), false);
        Due.answer("of least length: c2 80", x.takes(0xc2800000, 2), true);
        Due.answer("of least length: e0 a0 80", x.takes(0xe0a08000, 3), true);
        Due.answer("of least length: f0 90 80 80", x.takes(0xf0908080, 4), true);
        Due.answer("d7ff", x.takes(0xed9fbf00, 3), true);
        Due.answer("d800", x.takes(0xeda08000, 3), false);
        Due.answer("dfff", x.takes(0xedbfbf00, 3), false);
        Due.answer("e000", x.takes(0xee808000, 3), true);
        Due.answer("10ffff", x.takes(0xf48fbfbf, 4), true);
        Due.answer("110000", x.takes(0xf4908080, 4), false);
        Due.answer("f8 80 80 80", x.takes(0xf8808080, 4), false);
        Due.answer("ff ff ff ff", x.takes(0xffffffff, 4), false);
        Due.answer("second byte too low", x.takes(0xc37f0000, 2), false);
        Due.answer("second byte too high", x.takes(0xc3c00000, 2), false);
        Due.answer("third byte too low", x.takes(0xe2827f00, 3), false);
        Due.answer("fourth byte too high", x.takes(0xf09f98c0, 4), false);
        Due.answer("the lead of three with two", x.takes(0xe2820000, 2), false);
        Due.answer("the lead of two with three", x.takes(0xc3808000, 3), false);
    }

    /** As many ranges as the adds of 512 calls can make. */
    private static void manyRanges() {
        CharRows x = new CharRows();
        int adds = 509;
        for (int a = 0; a < adds; a++) {
            Due.answer("range after range", x.add(20000 + 2 * a, 20000 + 2 * a), a + 1);
        }
        Due.answer("many: turn", x.turn(), adds + 2);
        Due.answer("many: rows", x.rows(), 6 + (adds - 1) + 4 + 4);
        Due.answer("many: turn back", x.turn(), adds);
    }

    /** Answers are free behind the 512th call, but none may end in the machine's own exception. */
    private static void callsBeyondTheLast() {
        CharRows x = new CharRows();
        for (int c = 1; c < 4000; c += 2) {
            x.add(c, c);
        }
        x.turn();
        x.keep();
        x.turn();
        x.join();
        x.fold();
        x.turn();
        x.rows();
        x.row(5000, 1, 1);
        x.takes(0x61000000, 1);
        x.add(0, LAST);
        x.range(0, 1);
    }

    /** README.md tells these answers. */
    private static void callsOfTheReadme() {
        CharRows x = new CharRows();
        Due.answer("README: add of a .. f", x.add('a', 'f'), 1);
        Due.answer("README: fold", x.fold(), 2);
        Due.answer("README: range(0, 0)", x.range(0, 0), 65);
        Due.answer("README: range(0, 1)", x.range(0, 1), 70);
        Due.answer("README: range(2, 0)", x.range(2, 0), CharRows.NONE);
        x.keep();
        x.clear();
        Due.answer("README: add of the euro sign", x.add(0x20AC, 0x20AC), 1);
        Due.answer("README: rows", x.rows(), 1);
        Due.answer("README: row(0, 0, 0)", x.row(0, 0, 0), 3);
        Due.answer("README: row(0, 1, 0)", x.row(0, 1, 0), 0xE2);
        Due.answer("README: takes", x.takes(0xE282AC00, 3), true);
        Due.answer("README: join", x.join(), 3);
        Due.answer("README: turn", x.turn(), 5);
        Due.answer("README: has", x.has('a'), false);
    }
}

/** Tells each answer that is not the one that is due; the tests share it, it is none itself. */
final class Due {
    static final int LAST = 1114111;

    private static int wrong = 0;

    private Due() {
    }

    static void answer(String what, long got, long want) {
        if (got != want) {
            wrong++;
            System.out.println(what + " answered " + got + ", due is " + want);
        }
    }

    static void answer(String what, boolean got, boolean want) {
        answer(what, got ? 1 : 0, want ? 1 : 0);
    }

    static void same(String what, Object got, Object want) {
        if (!got.equals(want)) {
            wrong++;
            System.out.println(what + " is " + got + ", due is " + want);
        }
    }

    static void refused(CharRows x, int low, int high) {
        boolean thrown = false;
        try {
            x.add(low, high);
        } catch (IllegalArgumentException e) {
            thrown = true;
        }
        answer("add(" + low + ", " + high + ") throws", thrown, true);
    }

    /** ends: where each range begins and ends. */
    static void ranges(String what, CharRows x, int... ends) {
        answer(what + ": ranges", x.ranges(), ends.length / 2);
        for (int e = 0; e < ends.length; e++) {
            answer(what + ": range(" + e / 2 + ", " + e % 2 + ")", x.range(e / 2, e % 2), ends[e]);
        }
        answer(what + ": no range behind", x.range(ends.length / 2, 0), -1);
    }

    /** rows: each as "e0-e0 a0-bf 80-bf". */
    static void rows(String what, CharRows x, String... rows) {
        answer(what + ": rows", x.rows(), rows.length);
        for (int k = 0; k < rows.length; k++) {
            same(what + ": row " + k, textOfRow(x, k), rows[k]);
        }
        answer(what + ": no row behind", x.row(rows.length, 0, 0), -1);
    }

    static int countOfWrong() {
        return wrong;
    }

    /** The last call of a test: its exit code tells whether all was as due. */
    static void end() {
        System.out.println(wrong == 0 ? "all is as due" : wrong + " answers are not as due");
        if (wrong != 0) {
            System.exit(1);
        }
    }

    private static String textOfRow(CharRows x, int k) {
        StringBuilder text = new StringBuilder();
        int count = x.row(k, 0, 0);
        for (int i = 1; i <= count; i++) {
            text.append(i == 1 ? "" : " ");
            text.append(String.format("%02x-%02x", x.row(k, i, 0), x.row(k, i, 1)));
        }
        return text.toString();
    }
}

/** Counts and prints the calls whose answers are not those that are due. */
final class Due {
    private static int wrong = 0;

    private Due() {
    }

    static void is(String call, long got, long want) {
        if (got != want) {
            wrong++;
            System.out.println(call + " answered " + got + ", due is " + want);
        }
    }

    static void yes(String what, boolean holds) {
        if (!holds) {
            wrong++;
            System.out.println("does not hold: " + what);
        }
    }

    static boolean allWell() {
        return wrong == 0;
    }

    /** Holds the rows of an operator against (time, key, value), (time, key, value), .. */
    static void rows(String what, OnePassJudge x, int op, long... want) {
        int n = want.length / 3;
        is(what + ": rows(" + op + ")", x.rows(op), n);
        for (int i = 0; i < n; i++) {
            is(what + ": told(" + op + ", " + i + ", 0)", x.told(op, i, 0), want[3 * i]);
            is(what + ": told(" + op + ", " + i + ", 1)", x.told(op, i, 1), want[3 * i + 1]);
            is(what + ": value(" + op + ", " + i + ")", x.value(op, i), want[3 * i + 2]);
        }
        is(what + ": told(" + op + ", " + n + ", 0)", x.told(op, n, 0), OnePassJudge.NONE);
    }

    /** Holds the answer of compare(0, as), and those of where() behind it. */
    static void compared(String what, OnePassJudge x, int as, int answer, int place, int time, int key) {
        is(what + ": compare(0, " + as + ")", x.compare(0, as), answer);
        is(what + ": where(0)", x.where(0), place);
        is(what + ": where(1)", x.where(1), time);
        is(what + ": where(2)", x.where(2), key);
    }

    static void alike(String what, OnePassJudge x, int as) {
        compared(what, x, as, 0, OnePassJudge.NONE, OnePassJudge.NONE, OnePassJudge.NONE);
    }

    static void end() {
        System.out.println(wrong == 0 ? "all answers are as due" : wrong + " answers are not as due");
        if (wrong != 0) {
            System.exit(1);
        }
    }
}

import java.util.ArrayList;
import java.util.Collections;
import java.util.List;

/**
 * What stands before and behind the promises: ROWS that came in any order go once through all definitions, nothing is
 * kept from before, and an object is good for 512 calls.
 */
public final class OnePassTest {
    /** No two of one SOURCE have the same TIME, so that the order in which they come is of no weight. */
    private static final String[] ROWS = {"row 0 7 1 5 0", "row 0 3 1 9 0", "row 0 5 2 -4 0", "row 1 5 1 6 0",
        "row 1 3 2 8 0", "row 1 9 1 2 0"};

    /** One of each kind, over others; the second MAP FAILS by ZERO, KEEP by INDEX. */
    private static final String[] DEFINITIONS = {"read 0", "read 1", "meet 1 0", "each 0 2 1 3", "each 0 2 2 0",
        "each 1 2 4 0", "each 2 2 0 1", "spans 6 4 0", "join 0 1 4", "falls 2 3", "first 2 2", "spans 8 3 4"};

    private static final String[] ITEMS = {"item 5 1", "item 6 -1", "item 2 40"};

    public static void main(String[] args) {
        answersAreThoseOfTheDefinitions();
        rowsComeInAnyOrder();
        sourcesComeInAnyOrderBesideEachOther();
        judgedAgainIsTheSame();
        nothingIsKeptFromBefore();
        nothingIsKeptBehindWipeAndDrop();
        objectsAreApart();
        goodFor512Calls();
        Due.end();
    }

    private static void callAll(OnePassJudge x, Iterable<String> calls) {
        for (String c : calls) {
            Due.yes(c + " is not refused", Call.of(c).on(x) >= 0 || c.startsWith("item"));
        }
    }

    private static OnePassJudge judged(List<String> rows) {
        OnePassJudge x = new OnePassJudge();
        judge(x, rows);
        return x;
    }

    private static void judge(OnePassJudge x, List<String> rows) {
        callAll(x, rows);
        callAll(x, List.of(ITEMS));
        callAll(x, List.of(DEFINITIONS));
        Due.is("judge()", x.judge(), DEFINITIONS.length);
    }

    /** All that is JUDGED. */
    private static List<Long> trace(OnePassJudge x) {
        List<Long> answers = new ArrayList<>();
        for (int op = 0; op < x.count(1); op++) {
            int n = x.rows(op);
            answers.add((long) n);
            answers.add((long) x.fails(op, 0));
            answers.add((long) x.fails(op, 1));
            for (int i = 0; i < n; i++) {
                answers.add((long) x.told(op, i, 0));
                answers.add((long) x.told(op, i, 1));
                answers.add(x.value(op, i));
            }
        }
        return answers;
    }

    private static void same(String what, OnePassJudge x, OnePassJudge y) {
        List<Long> traceX = trace(x);
        List<Long> traceY = trace(y);
        Due.yes(what + ": " + traceX + " are " + traceY, traceX.equals(traceY));
    }

    private static void answersAreThoseOfTheDefinitions() {
        OnePassJudge x = judged(List.of(ROWS));
        Due.rows("READ", x, 0, 3, 1, 9, 5, 2, -4, 7, 1, 5);
        Due.rows("READ", x, 1, 3, 2, 8, 5, 1, 6, 9, 1, 2);
        Due.rows("MEET", x, 2, 3, 2, 8, 3, 1, 9, 5, 1, 6, 5, 2, -4, 7, 1, 5, 9, 1, 2);
        Due.rows("MAP", x, 3, 3, 2, 24, 3, 1, 27, 5, 1, 18, 5, 2, -12, 7, 1, 15, 9, 1, 6);
        Due.rows("MAP that FAILS", x, 4);
        Due.is("all FAIL by ZERO", x.fails(4, 0), 6);
        Due.rows("KEEP", x, 5, 7, 1, 5, 9, 1, 2);
        Due.is("8, 9, -4 FAIL by INDEX", x.fails(5, 1), 3);
        Due.rows("REKEY", x, 6, 3, 3, 8, 3, 4, 9, 5, 1, 6, 5, 3, -4, 7, 0, 5, 9, 3, 2);
        Due.rows("SPANS", x, 7, 3, 3, 8, 3, 4, 9, 7, 0, 5, 7, 1, 6, 7, 3, -4, 11, 3, 2);
        Due.rows("JOIN", x, 8, 5, 1, 9006, 5, 2, -3992, 7, 1, 5006, 9, 1, 5002);
        Due.rows("FALLS", x, 9, 5, 2, 12, 5, 1, 3, 7, 1, 1, 9, 1, 3);
        Due.rows("FIRST", x, 10, 3, 2, 8, 3, 1, 9, 5, 1, 6, 5, 2, -4);
        Due.rows("SPANS", x, 11, 5, 1, 9006, 5, 2, -3992, 8, 1, 5006, 11, 1, 5002);
    }

    private static void rowsComeInAnyOrder() {
        List<Long> due = trace(judged(List.of(ROWS)));
        everyOrder(new ArrayList<>(List.of(ROWS)), 0, due);
    }

    private static void everyOrder(List<String> rows, int from, List<Long> due) {
        if (from == rows.size()) {
            Due.yes("the same in the order " + rows, trace(judged(rows)).equals(due));
            return;
        }
        for (int i = from; i < rows.size(); i++) {
            Collections.swap(rows, from, i);
            everyOrder(rows, from + 1, due);
            Collections.swap(rows, from, i);
        }
    }

    /** Of one SOURCE and TIME the NUMBER decides, whatever comes of other SOURCES between them. */
    private static void sourcesComeInAnyOrderBesideEachOther() {
        String[] zeros = {"row 0 4 0 1 0", "row 0 4 0 2 0", "row 0 2 0 3 0"};
        String[] ones = {"row 1 4 0 4 0", "row 1 2 0 5 0", "row 1 4 0 6 0"};
        for (int which = 0; which < 64; which++) {
            if (Integer.bitCount(which) == 3) {
                OnePassJudge x = new OnePassJudge();
                int zero = 0;
                for (int i = 0; i < 6; i++) {
                    callAll(x, List.of((which >> i & 1) == 0 ? zeros[zero++] : ones[i - zero]));
                }
                callAll(x, List.of("read 0", "read 1", "judge"));
                Due.rows("SOURCE 0 in the order " + which, x, 0, 2, 0, 3, 4, 0, 1, 4, 0, 2);
                Due.rows("SOURCE 1 in the order " + which, x, 1, 2, 0, 5, 4, 0, 4, 4, 0, 6);
            }
        }
    }

    private static void judgedAgainIsTheSame() {
        OnePassJudge x = judged(List.of(ROWS));
        int failed = x.count(2);
        Due.is("FUNCTIONS FAILED", failed, 9);
        Due.is("judge() again", x.judge(), DEFINITIONS.length);
        same("judged again", x, judged(List.of(ROWS)));
        Due.is("FUNCTIONS FAILED again", x.count(2), 2 * failed);
    }

    /** One that has been full and has had OPERATORS that are UNDONE, and others that FAIL. */
    private static OnePassJudge used() {
        OnePassJudge x = new OnePassJudge();
        Made.addAlike(x, 30, 0, 999, 5);
        Made.addAlike(x, 30, 1, 999, 5);
        callAll(x, List.of("item 0 7", "item 7 9", "read 0", "read 1", "join 0 1 0", "meet 2 0", "each 0 0 2 0",
                "each 2 1 4 1", "spans 0 1000 3", "first 0 200", "falls 1 1000", "join 1 0 0", "each 1 9 0 0",
                "meet 0 1", "judge", "tell 0 999 5 0", "tell 11 20000 5 1"));
        Due.is("UNDONE", x.rows(9), OnePassJudge.UNDONE);
        Due.is("compare(0, 0)", x.compare(0, 0), 1);
        return x;
    }

    private static void isAsNew(String what, OnePassJudge x) {
        judge(x, List.of(ROWS));
        same(what, x, judged(List.of(ROWS)));
        Due.is(what + ": no difference is left", x.where(0), OnePassJudge.NONE);
        Due.is(what + ": nothing is TOLD", x.untell(0) + x.untell(11), 0);
    }

    private static void nothingIsKeptFromBefore() {
        OnePassJudge x = used();
        x.clear();
        isAsNew("behind clear()", x);
    }

    private static void nothingIsKeptBehindWipeAndDrop() {
        OnePassJudge x = used();
        x.wipe();
        for (int left = 11; left >= 0; left--) {
            Due.is("drop()", x.drop(), left);
        }
        Due.is("the ITEM is kept", x.item(0, 0), 7);
        Due.is("the ITEM is kept", x.item(7, 0), 9);
        isAsNew("behind wipe() and drop()", x);
    }

    private static void objectsAreApart() {
        OnePassJudge x = judged(List.of(ROWS));
        OnePassJudge y = used();
        same("beside another", x, judged(List.of(ROWS)));
        y.clear();
        same("beside another that is cleared", x, judged(List.of(ROWS)));
        Due.is("no difference of the other", x.where(0), OnePassJudge.NONE);
        Due.is("failures are its own", x.count(2), 9);
        Due.is("the ITEM is its own", x.item(7, 0), 0);
    }

    /** 2 OPERATORS, 60 ROWS, and 150 times 3 calls: a ROW becomes LATE or not, and the sum of the others is due. */
    private static void goodFor512Calls() {
        OnePassJudge x = new OnePassJudge();
        Due.is("read(0)", x.read(0), 0);
        Due.is("spans(0, 1000, 0)", x.spans(0, 1000, 0), 1);
        for (int i = 0; i < 60; i++) {
            Due.is("row", x.row(0, 999 - i, 3, i, false), i);
        }
        long sum = 59 * 60 / 2;
        boolean[] late = new boolean[60];
        for (int round = 0; round < 150; round++) {
            int i = round * 7 % 60;
            Due.is("round " + round + ": late", x.late(i, !late[i]), late[i] ? 1 : 0);
            late[i] = !late[i];
            sum += late[i] ? -i : i;
            Due.is("round " + round + ": judge()", x.judge(), 2);
            Due.is("round " + round + ": value(1, 0)", x.value(1, 0), sum);
        }
    }
}

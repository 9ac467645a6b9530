import java.util.ArrayList;
import java.util.LinkedHashMap;
import java.util.List;
import java.util.Map;

/**
 * Each refusal that promises 2 to 24 name: at the last number that is allowed and the first that is not, on either
 * side; which of two comes first; and that what is refused changes nothing.
 */
public final class RefusalsTest {
    private static final int BAD = OnePassJudge.BAD;
    private static final int FULL = OnePassJudge.FULL;
    private static final int STATE = OnePassJudge.STATE;
    private static final int NONE = OnePassJudge.NONE;
    private static final int SPENT = OnePassJudge.SPENT;
    private static final int UNDONE = OnePassJudge.UNDONE;
    private static final long[] ANY = {};

    /** What a judge has been told when the calls are tried, and how many ROWS and OPERATORS it has then. */
    private record Before(String name, List<Call> calls, int rows, int operators) {
        OnePassJudge make() {
            OnePassJudge x = new OnePassJudge();
            for (Call c : calls) {
                c.on(x);
            }
            return x;
        }
    }

    /** A call with arguments that are fit, and for each of them the least and the most that is. */
    private record Bounds(Call fit, long[]... allowed) {
    }

    private static final Before NEW = new Before("new", List.of(), 0, 0);
    private static final Before OPEN = open();
    private static final Before JUDGED = judged();
    private static final Before FILLED = filled();
    private static final Before USED_UP = usedUp();
    private static final Before USED_UP_AND_EMPTY = usedUpAndEmpty();

    private static final Map<Before, List<Long>> UNTOUCHED = new LinkedHashMap<>();

    public static void main(String[] args) {
        for (Before before : List.of(NEW, OPEN, JUDGED, FILLED, USED_UP, USED_UP_AND_EMPTY)) {
            OnePassJudge x = before.make();
            Due.is(before.name + ": count(0)", x.count(0), before.rows);
            Due.is(before.name + ": count(1)", x.count(1), before.operators);
            UNTOUCHED.put(before, trace(before.make(), before));
            for (Bounds b : boundsOf(before)) {
                tryBounds(before, b);
            }
        }
        ofANewOne();
        ofAnOpenOne();
        ofAJudgedOne();
        ofAFilledOne();
        ofOneThatIsUsedUp();
        Due.end();
    }

    private static List<Bounds> boundsOf(Before before) {
        long[] row = {0, before.rows - 1};
        long[] op = {0, before.operators - 1};
        long[] key = {0, 5};
        long[] two = {0, 1};
        long[] three = {0, 2};
        long[] w = {0, 1000};
        return List.of(
                new Bounds(new Call("row", 0, 0, 0, 0, 0), three, new long[] {0, 999}, key,
                        new long[] {-1_000_000, 1_000_000}, ANY),
                new Bounds(new Call("late", 0, 0), row, ANY),
                new Bounds(new Call("item", 0, 0), new long[] {0, 7}, ANY),
                new Bounds(new Call("read", 0), three),
                new Bounds(new Call("each", 0, 0, 0, 0), three, op, new long[] {0, 6}, ANY),
                new Bounds(new Call("spans", 0, 1, 0), op, new long[] {1, 1000}, new long[] {0, 4}),
                new Bounds(new Call("join", 0, 0, 0), op, op, w),
                new Bounds(new Call("meet", 0, 0), op, op),
                new Bounds(new Call("falls", 0, 0), op, w),
                new Bounds(new Call("first", 0, 0), op, new long[] {0, 200}),
                new Bounds(new Call("rows", 0), op),
                new Bounds(new Call("told", 0, 0, 0), op, ANY, two),
                new Bounds(new Call("fails", 0, 0), op, two),
                new Bounds(new Call("tell", 0, 0, 0, 0), op, new long[] {0, 20_000}, key, ANY),
                new Bounds(new Call("untell", 0), op),
                new Bounds(new Call("compare", 0, 0), op, two),
                new Bounds(new Call("where", 0), three),
                new Bounds(new Call("count", 0), three));
    }

    private static void tryBounds(Before before, Bounds b) {
        boolean isFit = true;
        Call allBad = b.fit;
        for (int i = 0; i < b.allowed.length; i++) {
            if (b.allowed[i] != ANY) {
                isFit &= b.allowed[i][0] <= b.allowed[i][1];
                allBad = allBad.with(i, b.allowed[i][1] + 1);
            }
        }
        refused(before, allBad, BAD);
        for (int i = 0; i < b.allowed.length; i++) {
            if (b.allowed[i] != ANY) {
                tryOutside(before, b.fit, i, b.allowed[i]);
            }
            if (isFit) {
                tryInside(before, b.fit, i, b.allowed[i]);
            }
        }
    }

    private static void tryOutside(Before before, Call fit, int i, long[] allowed) {
        for (long bad : new long[] {allowed[0] - 1, allowed[1] + 1, Integer.MIN_VALUE, Integer.MAX_VALUE}) {
            refused(before, fit.with(i, bad), BAD);
        }
    }

    /** No call that is allowed here answers -1: BAD is the one refusal that arguments alone decide. */
    private static void tryInside(Before before, Call fit, int i, long[] allowed) {
        for (long good : allowed) {
            Call c = fit.with(i, good);
            Due.yes(before.name + ": " + c + " is not BAD", c.on(before.make()) != BAD);
        }
        Due.yes(before.name + ": " + fit + " is not BAD", fit.on(before.make()) != BAD);
    }

    private static void refused(Before before, Call c, int due) {
        OnePassJudge x = before.make();
        Due.is(before.name + ": " + c, c.on(x), due);
        if (!trace(x, before).equals(UNTOUCHED.get(before))) {
            Due.yes(before.name + ": " + c + " is refused and changes nothing", false);
        }
    }

    /** All that a judge can be asked; the last calls change it. */
    private static List<Long> trace(OnePassJudge x, Before before) {
        List<Long> answers = new ArrayList<>();
        for (int i = 0; i < 3; i++) {
            answers.add((long) x.where(i));
            answers.add((long) x.count(i));
        }
        readAll(x, before, answers);
        for (int op = 0; op < before.operators; op++) {
            for (int as = 0; as < 2; as++) {
                answers.add((long) x.compare(op, as));
                answers.add((long) x.where(1));
            }
            answers.add((long) x.untell(op));
        }
        for (int i = 0; i < before.rows; i++) {
            answers.add((long) x.late(i, false));
        }
        answers.add((long) x.judge());
        readAll(x, before, answers);
        for (int i = 0; i < 8; i++) {
            answers.add((long) x.item(i, 0));
        }
        answers.add((long) x.clear());
        return answers;
    }

    private static void readAll(OnePassJudge x, Before before, List<Long> answers) {
        for (int op = 0; op < before.operators; op++) {
            int n = x.rows(op);
            answers.add((long) n);
            answers.add((long) x.fails(op, 0) + 1000L * x.fails(op, 1));
            answers.add(x.value(op, 0));
            answers.add(x.value(op, n - 1));
            answers.add((long) x.told(op, n - 1, 0));
        }
    }

    /** READ 0 of 15 rows, JOIN 1 of it, which is UNDONE, MAP 2, which FAILS, READ 3 of one row. */
    private static Before judged() {
        List<Call> calls = new ArrayList<>();
        for (int i = 0; i < 15; i++) {
            calls.add(new Call("row", 0, 20 - i, 0, i, 0));
        }
        calls.add(new Call("row", 1, 999, 5, 1_000_000, 0));
        calls.add(new Call("row", 1, 0, 5, 1, 1));
        for (int i = 0; i < 8; i++) {
            calls.add(new Call("item", i, 100 + i));
        }
        calls.add(new Call("read", 0));
        calls.add(new Call("join", 0, 0, 1000));
        calls.add(new Call("each", 0, 0, 4, 0));
        calls.add(new Call("read", 1));
        for (int op = 0; op < 4; op++) {
            calls.add(new Call("tell", op, 999, 5, 1_000_000));
        }
        calls.add(new Call("judge"));
        calls.add(new Call("compare", 0, 0));
        return new Before("judged", calls, 17, 4);
    }

    private static Before open() {
        List<Call> calls = new ArrayList<>(judged().calls);
        calls.add(new Call("first", 0, 3));
        return new Before("open", calls, 17, 5);
    }

    /** 60 ROWS, 12 OPERATORS, 40 rows TOLD of the first and of the last. */
    private static Before filled() {
        List<Call> calls = new ArrayList<>();
        for (int i = 0; i < 60; i++) {
            calls.add(new Call("row", i % 3, 60 - i, i % 6, i, i % 7 == 0 ? 1 : 0));
        }
        for (int i = 0; i < 12; i++) {
            calls.add(new Call("read", i % 3));
        }
        for (int i = 0; i < 40; i++) {
            calls.add(new Call("tell", 0, i, 0, i));
            calls.add(new Call("tell", 11, i, 5, i));
        }
        calls.add(new Call("judge"));
        calls.add(new Call("compare", 11, 1));
        return new Before("filled", calls, 60, 12);
    }

    /** FUNCTIONS FAILED 3000 times: 60 rows in 10 OPERATORS, five times. */
    private static Before usedUp() {
        List<Call> calls = new ArrayList<>();
        for (int i = 0; i < 60; i++) {
            calls.add(new Call("row", 0, i, 0, i, 0));
        }
        calls.add(new Call("read", 0));
        for (int i = 0; i < 10; i++) {
            calls.add(new Call("each", i % 3, 0, 2 + i % 2, 0));
        }
        for (int i = 0; i < 5; i++) {
            calls.add(new Call("judge"));
        }
        calls.add(new Call("compare", 0, 0));
        calls.add(new Call("late", 7, 1));
        return new Before("used up", calls, 60, 11);
    }

    private static Before usedUpAndEmpty() {
        List<Call> calls = new ArrayList<>(usedUp().calls);
        calls.add(new Call("clear"));
        return new Before("used up and empty", calls, 0, 0);
    }

    /** Each of the calls, made on a judge of its own, is answered so and changes nothing. */
    private static void allRefused(Before before, int due, String... calls) {
        for (String c : calls) {
            refused(before, Call.of(c), due);
        }
    }

    private static void ofANewOne() {
        allRefused(NEW, STATE, "drop", "judge");
        allRefused(NEW, NONE, "where 0", "where 1", "where 2");
        allRefused(NEW, BAD, "where 3", "rows 0", "told 0 0 0", "fails 0 0", "tell 0 0 0 0", "untell 0",
                "compare 0 0", "late 0 1");
        allRefused(NEW, 0, "value 0 0", "value -1 -1");
    }

    /** Nothing is JUDGED: BAD comes before STATE, STATE before UNDONE and NONE. */
    private static void ofAnOpenOne() {
        allRefused(OPEN, STATE, "rows 0", "rows 1", "rows 4", "told 0 0 0", "told 0 0 1", "told 1 0 0", "told 0 -1 0",
                "told 0 15 1", "told 1 200 1", "fails 0 0", "fails 1 1", "compare 0 0", "compare 0 1", "compare 1 0",
                "compare 4 1");
        allRefused(OPEN, BAD, "rows 5", "rows -1", "told 5 0 0", "told 0 0 2", "told 0 15 2", "told 1 0 -1",
                "fails 5 0", "fails 0 2", "compare 5 0", "compare 0 2", "compare 1 -1");
        allRefused(OPEN, NONE, "where 0", "where 1", "where 2");
        allRefused(OPEN, 0, "value 0 0", "value 4 2", "value 5 0");
    }

    /** BAD comes before UNDONE, UNDONE before NONE. */
    private static void ofAJudgedOne() {
        allRefused(JUDGED, UNDONE, "rows 1", "told 1 0 0", "told 1 0 1", "told 1 -1 0", "told 1 200 0", "compare 1 0",
                "compare 1 1");
        allRefused(JUDGED, BAD, "told 1 0 2", "told 1 0 -1", "compare 1 2", "compare 1 -1", "told 4 0 0",
                "told 0 15 2", "rows 4", "fails 4 0", "fails 1 2", "compare 4 0", "where -1");
        allRefused(JUDGED, NONE, "told 0 -1 0", "told 0 15 0", "told 0 15 1", "told 3 1 0", "told 2 8 1",
                "told 0 -2147483648 0", "told 0 2147483647 0");
        allRefused(JUDGED, 0, "value 0 -1", "value 0 15", "value 1 0", "value 4 0", "value -1 0", "value 3 1",
                "value 0 -2147483648", "value 0 2147483647");
        OnePassJudge x = JUDGED.make();
        Due.is("15 rows(0)", x.rows(0), 15);
        Due.is("15 rows(3)", x.rows(3), 1);
        Due.is("16 the last of 0", x.told(0, 14, 0), 20);
        Due.is("16 the last of 2", x.told(2, 7, 0), 20);
        Due.is("16 the last of 3", x.told(3, 0, 1), 5);
        Due.is("18 fails(1, 0) of one that is UNDONE", x.fails(1, 0), 0);
        Due.is("18 fails(2, 1)", x.fails(2, 1), 7);
        Due.is("22 where(1)", x.where(1), 6);
    }

    /** BAD comes before FULL. */
    private static void ofAFilledOne() {
        allRefused(FILLED, FULL, "row 0 0 0 0 0", "row 2 999 5 1000000 1", "read 0", "each 0 11 0 0", "each 2 0 6 0",
                "spans 11 1000 4", "join 11 0 1000", "meet 0 11", "falls 11 1000", "first 11 200", "tell 0 0 0 0",
                "tell 11 20000 5 -9223372036854775808");
        allRefused(FILLED, BAD, "row 3 0 0 0 0", "row 0 1000 0 0 0", "row 0 0 6 0 0", "row 0 0 0 -1000001 0",
                "read 3", "each 3 0 0 0", "each 0 12 0 0", "each 0 0 7 0", "spans 12 1 0", "spans 0 1001 0",
                "spans 0 1 5", "join 12 0 0", "join 0 12 0", "join 0 0 1001", "meet 12 0", "meet 0 12", "falls 12 0",
                "falls 0 1001", "first 12 0", "first 0 201", "tell 12 0 0 0", "tell 0 20001 0 0", "tell 0 0 6 0");
        OnePassJudge x = FILLED.make();
        Due.is("19 of another there is room", x.tell(1, 0, 0, 0), 1);
    }

    /** STATE comes before SPENT. */
    private static void ofOneThatIsUsedUp() {
        allRefused(USED_UP, SPENT, "judge");
        allRefused(USED_UP_AND_EMPTY, STATE, "judge", "drop");
        OnePassJudge x = USED_UP.make();
        Due.is("23 count(2)", x.count(2), 3000);
        Due.is("14 SPENT", x.judge(), SPENT);
        Due.is("14 what is JUDGED stays", x.rows(0), 60);
        Due.is("22 where(0)", x.where(0), 0);
    }
}

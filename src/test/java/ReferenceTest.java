import java.util.ArrayList;
import java.util.Collections;
import java.util.List;
import java.util.Random;

/**
 * Runs of chosen calls, the same each time, on the judge and on a second one that is written as the document's words
 * stand. Many arguments are at the last number that is allowed, some at the first that is not.
 */
public final class ReferenceTest {
    private static final int RUNS = 1500;
    private static final int CALLS = 512;
    private static final int CALLS_TO_READ_ALL = 120;
    private static final int[] NUMBERS = {-3, -1, 0, 0, 1, 2, 6, 1000, Integer.MAX_VALUE, Integer.MIN_VALUE};

    private final Random random;
    private final int times;
    private final int keys;
    /** One in so many arguments is not allowed. */
    private final int badOneIn;
    private final OnePassJudge judge = new OnePassJudge();
    private final SecondJudge second = new SecondJudge();
    private int calls = 0;

    private ReferenceTest(int seed) {
        random = new Random(seed);
        times = new int[] {1000, 4, 40, 40}[seed % 4];
        keys = seed % 3 == 0 ? 6 : 2;
        badOneIn = seed % 5 == 0 ? 8 : 60;
    }

    public static void main(String[] args) {
        for (int seed = 0; seed < RUNS && Due.allWell(); seed++) {
            ReferenceTest run = new ReferenceTest(seed);
            run.go();
            if (!Due.allWell()) {
                System.out.println("in the run of seed " + seed + ", call " + run.calls);
            }
        }
        Due.end();
    }

    private void go() {
        while (calls < CALLS - CALLS_TO_READ_ALL && Due.allWell()) {
            step();
        }
        call("judge");
        for (int op = 0; op < second.count(1); op++) {
            readAll(op);
        }
    }

    /** The answer that is due, which is not asked for any more behind the last call that an object is used for. */
    private long call(String name, long... args) {
        Call c = new Call(name, args);
        long due = c.on(second);
        if (calls < CALLS && Due.allWell()) {
            calls++;
            Due.is(c.toString(), c.on(judge), due);
        }
        return due;
    }

    private void step() {
        int choice = random.nextInt(100);
        if (choice < 34) {
            int n = second.count(0);
            call("row", num(0, 2), num(0, times - 1, 999), num(0, keys - 1, 5), someValue(), random.nextInt(8) / 7);
            call("late", num(0, n - 1), random.nextInt(8) / 7);
        } else if (choice < 38) {
            call("item", num(0, 7), random.nextInt());
        } else if (choice < 56) {
            addOperator();
        } else if (choice < 59) {
            call("drop");
        } else if (choice < 69) {
            call("judge");
        } else if (choice < 84) {
            readSome();
        } else if (choice < 98) {
            tellAndCompare();
        } else {
            call(random.nextInt(3) == 0 ? "clear" : "wipe");
        }
    }

    /** A number from the least to the most, seldom one outside. */
    private long num(int least, int most) {
        return num(least, most, most);
    }

    /** The same, where the run chooses from less than is allowed. */
    private long num(int least, int most, int allowed) {
        int choice = random.nextInt(badOneIn);
        if (choice == 0) {
            long[] bad = {least - 1L, allowed + 1L, Integer.MIN_VALUE, Integer.MAX_VALUE};
            return bad[random.nextInt(bad.length)];
        }
        if (choice == 1 || most <= least) {
            return random.nextBoolean() ? least : Math.max(least, most);
        }
        return least + random.nextInt(most - least + 1);
    }

    private long someValue() {
        return random.nextBoolean() ? random.nextInt(12) - 2 : num(-1_000_000, 1_000_000);
    }

    private long operator() {
        return num(0, second.count(1) - 1);
    }

    private void addOperator() {
        int number = NUMBERS[random.nextInt(NUMBERS.length)];
        switch (random.nextInt(10)) {
            case 0, 1 -> call("read", num(0, 2));
            case 2, 3, 4 -> call("each", num(0, 2), operator(), num(0, 6), number);
            case 5 -> call("spans", operator(), num(1, times, 1000), num(0, 4));
            case 6 -> call("join", operator(), operator(), num(0, times / 2, 1000));
            case 7 -> call("meet", operator(), operator());
            case 8 -> call("falls", operator(), num(0, times, 1000));
            default -> call("first", operator(), num(0, 4, 200));
        }
    }

    private void readSome() {
        long op = operator();
        int n = (int) call("rows", op);
        call("told", op, num(0, n - 1), num(0, 1));
        call("value", op, num(0, n - 1));
        call("fails", op, num(0, 1));
        call("where", num(0, 2));
        call("count", num(0, 2));
    }

    private void readAll(int op) {
        int n = (int) call("rows", op);
        call("fails", op, 0);
        call("fails", op, 1);
        for (int i = 0; i < n; i++) {
            call("value", op, i);
            call("told", op, i, 0);
            call("told", op, i, 1);
        }
    }

    private void tellAndCompare() {
        long op = operator();
        if (random.nextInt(3) > 0) {
            call("untell", op);
            for (SecondJudge.Row r : nearlyWhatIsJudged((int) op)) {
                call("tell", op, r.time(), r.key(), r.value());
            }
            if (random.nextInt(8) == 0) {
                call("tell", op, num(0, 20_000), num(0, 5), random.nextLong());
            }
        }
        for (int i = 0; i < 2; i++) {
            call("compare", op, num(0, 1));
            call("where", 0);
            call("where", 1);
            call("where", 2);
        }
    }

    /** Most runs would go into telling alone, if all rows of a long list were told each time. */
    private List<SecondJudge.Row> nearlyWhatIsJudged(int op) {
        List<SecondJudge.Row> rows = new ArrayList<>(second.judgedOf(op));
        while (rows.size() > 15 && random.nextInt(10) > 0) {
            rows.remove(rows.size() - 1);
        }
        if (random.nextBoolean()) {
            Collections.shuffle(rows, random);
        }
        if (random.nextBoolean() && !rows.isEmpty()) {
            changeOne(rows, random.nextInt(rows.size()));
        }
        return rows;
    }

    private void changeOne(List<SecondJudge.Row> rows, int i) {
        SecondJudge.Row r = rows.get(i);
        switch (random.nextInt(5)) {
            case 0 -> rows.remove(i);
            case 1 -> rows.add(r);
            case 2 -> rows.set(i, new SecondJudge.Row(r.time(), r.key(), r.value() + 1));
            case 3 -> rows.set(i, new SecondJudge.Row(r.time(), (r.key() + 1) % 6, r.value()));
            default -> rows.set(i, new SecondJudge.Row(r.time() + 1, r.key(), r.value()));
        }
    }
}

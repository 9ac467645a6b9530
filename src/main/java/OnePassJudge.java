/**
 * The judge of a house for streams: it puts rows into the order of their times, sends them once through all
 * operators' definitions, and holds what a run told of an operator against that.
 *
 * All room is made in the constructors and used again, so that no later call makes an object.
 */
public final class OnePassJudge {
    public static final int BAD = -1, FULL = -2, STATE = -3, NONE = -4, SPENT = -5, UNDONE = -6;

    private static final int SOURCES = 3;
    private static final int TIMES = 1000;
    private static final int KEYS = 6;
    private static final int FARTHEST_VALUE = 1_000_000;
    private static final int ITEMS = 8;

    private static final int MOST_ARRIVALS = 60;
    private static final int MOST_OPERATORS = 12;
    private static final int MOST_GIVEN = 200;
    private static final int MOST_TOLD = 40;

    private static final int WIDEST = 1000;
    private static final int LAST_TOLD_TIME = 20_000;
    private static final int FAILURES_ALLOWED = 3000;

    private static final int READ = 0;
    private static final int MAP = 1;
    private static final int KEEP = 2;
    private static final int REKEY = 3;
    private static final int SPANS = 4;
    private static final int JOIN = 5;
    private static final int MEET = 6;
    private static final int FALLS = 7;
    private static final int FIRST = 8;
    private static final int EACH_KINDS = 3;

    private static final int FUNCTIONS = 7;
    private static final int BY_ZERO = 0;
    private static final int BY_INDEX = 1;
    private static final int FAILURE_KINDS = 2;
    private static final int NO_FAILURE = -1;

    private static final int SUM = 0;
    private static final int HOW_MANY = 1;
    private static final int LEAST = 2;
    private static final int GREATEST = 3;
    private static final int HOWS = 5;

    private static final int ALIKE = 0;
    private static final int TOO_FEW = 1;
    private static final int TOO_MANY = 2;
    private static final int OTHER = 3;

    private static final int NOWHERE = -1;

    private final Arrivals arrivals = new Arrivals();
    private final Table table = new Table();
    private final Operator[] operators = new Operator[MOST_OPERATORS];
    private final Pass pass = new Pass();
    private final Comparison comparison = new Comparison();
    private int operatorCount = 0;
    private int failureCount = 0;
    private boolean isJudged = false;

    public OnePassJudge() {
        for (int i = 0; i < operators.length; i++) {
            operators[i] = new Operator();
        }
    }

    // ---- rows

    public int row(int source, int time, int key, int v, boolean late) {
        if (!within(source, 0, SOURCES - 1) || !within(time, 0, TIMES - 1) || !within(key, 0, KEYS - 1)
                || !within(v, -FARTHEST_VALUE, FARTHEST_VALUE)) {
            return BAD;
        }
        return arrivals.take(source, time, key, v, late) ? arrivals.size() - 1 : FULL;
    }

    public int late(int i, boolean on) {
        if (!within(i, 0, arrivals.size() - 1)) {
            return BAD;
        }
        return arrivals.swapLate(i, on) ? 1 : 0;
    }

    public int item(int i, int v) {
        return within(i, 0, ITEMS - 1) ? table.swap(i, v) : BAD;
    }

    public int wipe() {
        int before = arrivals.size();
        arrivals.empty();
        return before;
    }

    // ---- operators

    public int read(int s) {
        return within(s, 0, SOURCES - 1) ? addOperator(READ, NOWHERE, NOWHERE, s, 0) : BAD;
    }

    public int each(int which, int p, int f, int c) {
        if (!within(which, 0, EACH_KINDS - 1) || !isOperator(p) || !within(f, 0, FUNCTIONS - 1)) {
            return BAD;
        }
        return addOperator(MAP + which, p, p, f, c);
    }

    public int spans(int p, int size, int how) {
        if (!isOperator(p) || !within(size, 1, WIDEST) || !within(how, 0, HOWS - 1)) {
            return BAD;
        }
        return addOperator(SPANS, p, p, size, how);
    }

    public int join(int p, int q, int w) {
        if (!isOperator(p) || !isOperator(q) || !within(w, 0, WIDEST)) {
            return BAD;
        }
        return addOperator(JOIN, p, q, w, 0);
    }

    public int meet(int p, int q) {
        return isOperator(p) && isOperator(q) ? addOperator(MEET, p, q, 0, 0) : BAD;
    }

    public int falls(int p, int w) {
        return isOperator(p) && within(w, 0, WIDEST) ? addOperator(FALLS, p, p, w, 0) : BAD;
    }

    public int first(int p, int n) {
        return isOperator(p) && within(n, 0, MOST_GIVEN) ? addOperator(FIRST, p, p, n, 0) : BAD;
    }

    public int drop() {
        Operator last = operatorAt(operatorCount - 1);
        if (last == null) {
            return STATE;
        }
        last.told.empty();
        operatorCount--;
        forgetJudged();
        return operatorCount;
    }

    // ---- judging

    public int judge() {
        if (operatorCount == 0) {
            return STATE;
        }
        if (failureCount >= FAILURES_ALLOWED) {
            return SPENT;
        }
        int done = 0;
        for (int i = 0; i < operatorCount; i++) {
            Operator o = operatorAt(i);
            if (o != null && judgeOne(o)) {
                done++;
            }
        }
        isJudged = true;
        comparison.forget();
        return done;
    }

    public int rows(int op) {
        Operator o = operatorAt(op);
        int refusal = refusalToShow(o);
        return o == null || refusal != 0 ? refusal : o.given.size();
    }

    public int told(int op, int i, int what) {
        Operator o = operatorAt(op);
        if (o == null || !within(what, 0, 1)) {
            return BAD;
        }
        int refusal = refusalToShow(o);
        if (refusal != 0) {
            return refusal;
        }
        if (!within(i, 0, o.given.size() - 1)) {
            return NONE;
        }
        return what == 0 ? o.given.timeAt(i) : o.given.keyAt(i);
    }

    public long value(int op, int i) {
        Operator o = operatorAt(op);
        return o == null || refusalToShow(o) != 0 ? 0 : o.given.valueAt(i);
    }

    public int fails(int op, int kind) {
        Operator o = operatorAt(op);
        if (o == null || !within(kind, 0, FAILURE_KINDS - 1)) {
            return BAD;
        }
        return isJudged ? o.failuresBy(kind) : STATE;
    }

    public int tell(int op, int time, int key, long v) {
        Operator o = operatorAt(op);
        if (o == null || !within(time, 0, LAST_TOLD_TIME) || !within(key, 0, KEYS - 1)) {
            return BAD;
        }
        return o.told.add(time, key, v) ? o.told.size() : FULL;
    }

    public int untell(int op) {
        Operator o = operatorAt(op);
        if (o == null) {
            return BAD;
        }
        int before = o.told.size();
        o.told.empty();
        return before;
    }

    public int compare(int op, int as) {
        Operator o = operatorAt(op);
        if (o == null || !within(as, 0, 1)) {
            return BAD;
        }
        int refusal = refusalToShow(o);
        if (refusal != 0) {
            return refusal;
        }
        return as == 0 ? comparison.byOrder(o.given, o.told) : comparison.bySets(o.given, o.told);
    }

    public int where(int what) {
        if (!within(what, 0, 2)) {
            return BAD;
        }
        return isJudged && comparison.hasDifference() ? comparison.partOfDifference(what) : NONE;
    }

    public int count(int what) {
        switch (what) {
            case 0:
                return arrivals.size();
            case 1:
                return operatorCount;
            case 2:
                return failureCount;
            default:
                return BAD;
        }
    }

    public int clear() {
        int before = operatorCount;
        for (int i = 0; i < operators.length; i++) {
            Operator o = operators[i];
            if (o != null) {
                o.told.empty();
            }
        }
        arrivals.empty();
        table.empty();
        operatorCount = 0;
        forgetJudged();
        return before;
    }

    private static boolean within(int n, int least, int most) {
        return n >= least && n <= most;
    }

    private boolean isOperator(int i) {
        return operatorAt(i) != null;
    }

    /** The operator of that number, or null: there is none. */
    private Operator operatorAt(int i) {
        return i >= 0 && i < operatorCount && i < operators.length ? operators[i] : null;
    }

    private int addOperator(int kind, int p, int q, int a, int b) {
        if (operatorCount >= operators.length) {
            return FULL;
        }
        Operator o = operators[operatorCount];
        if (o == null) {
            return FULL;
        }
        o.become(kind, p, q, a, b);
        operatorCount++;
        forgetJudged();
        return operatorCount - 1;
    }

    private void forgetJudged() {
        isJudged = false;
        comparison.forget();
    }

    /** Why the rows of an operator can't be shown, or 0: they can. */
    private int refusalToShow(Operator o) {
        if (o == null) {
            return BAD;
        }
        if (!isJudged) {
            return STATE;
        }
        return o.isUndone ? UNDONE : 0;
    }

    /** Whether the operator is done, not UNDONE. */
    private boolean judgeOne(Operator o) {
        o.startAgain();
        if (o.kind == READ) {
            o.end(arrivals.giveInTime(o.a, o.given));
        } else {
            Operator p = operatorAt(o.p);
            Operator q = operatorAt(o.q);
            boolean canRun = p != null && q != null && !p.isUndone && !q.isUndone;
            o.end(canRun && pass.giveFrom(o, p.given, q.given, table));
        }
        failureCount += o.failuresBy(BY_ZERO) + o.failuresBy(BY_INDEX);
        return !o.isUndone;
    }

    /** The ROWS, in the order in which they came. */
    private static final class Arrivals {
        private final int[] sources = new int[MOST_ARRIVALS];
        private final int[] times = new int[MOST_ARRIVALS];
        private final int[] keys = new int[MOST_ARRIVALS];
        private final int[] values = new int[MOST_ARRIVALS];
        private final boolean[] lates = new boolean[MOST_ARRIVALS];
        private int size = 0;

        int size() {
            return size;
        }

        void empty() {
            size = 0;
        }

        /** Whether there was room. */
        boolean take(int source, int time, int key, int v, boolean isLate) {
            if (size >= MOST_ARRIVALS) {
                return false;
            }
            sources[size] = source;
            times[size] = time;
            keys[size] = key;
            values[size] = v;
            lates[size] = isLate;
            size++;
            return true;
        }

        /** Whether it was LATE before. */
        boolean swapLate(int i, boolean on) {
            if (i < 0 || i >= size) {
                return false;
            }
            boolean before = lates[i];
            lates[i] = on;
            return before;
        }

        /**
         * READ; whether the rows had room. Those of one SOURCE stand here by NUMBER, so an order by TIME that
         * leaves equals as they stand is the one that is due.
         */
        boolean giveInTime(int source, Rows to) {
            for (int i = 0; i < size; i++) {
                if (sources[i] == source && !lates[i] && !to.addByTime(times[i], keys[i], values[i])) {
                    return false;
                }
            }
            return true;
        }
    }

    /** THE TABLE, and the FUNCTIONS, one of which looks into it. */
    private static final class Table {
        private final int[] items = new int[ITEMS];

        void empty() {
            for (int i = 0; i < items.length; i++) {
                items[i] = 0;
            }
        }

        /** What the ITEM was before. */
        int swap(int i, int v) {
            if (i < 0 || i >= items.length) {
                return BAD;
            }
            int before = items[i];
            items[i] = v;
            return before;
        }

        /** The kind by which the FUNCTION FAILS, or NO_FAILURE. */
        int failureOf(int f, long v, int c) {
            if ((f == 2 || f == 3) && c == 0) {
                return BY_ZERO;
            }
            return f == 4 && !hasItem(v) ? BY_INDEX : NO_FAILURE;
        }

        /** What the FUNCTION gives where it does not FAIL; 0 where it does. */
        long resultOf(int f, long v, int c) {
            switch (f) {
                case 0:
                    return v + c;
                case 1:
                    return v * c;
                case 2:
                    return c == 0 ? 0 : v / c;
                case 3:
                    return c == 0 ? 0 : v % c;
                case 4:
                    return hasItem(v) ? items[(int) v] : 0;
                case 5:
                    return c - v;
                case 6:
                    return (byte) v;
                default:
                    return 0;
            }
        }

        private boolean hasItem(long v) {
            return v >= 0 && v < items.length;
        }
    }

    /** Rows of a TIME, a KEY and a VALUE, in an order, as many as there is room for. */
    private static final class Rows {
        private final int[] times;
        private final int[] keys;
        private final long[] values;
        private int size = 0;

        Rows(int most) {
            int room = Math.max(most, 0);
            times = new int[room];
            keys = new int[room];
            values = new long[room];
        }

        int size() {
            return size;
        }

        void empty() {
            size = 0;
        }

        int timeAt(int i) {
            return i >= 0 && i < size ? times[i] : 0;
        }

        int keyAt(int i) {
            return i >= 0 && i < size ? keys[i] : 0;
        }

        long valueAt(int i) {
            return i >= 0 && i < size ? values[i] : 0;
        }

        /** Puts a row behind all others; whether there was room. */
        boolean add(int time, int key, long v) {
            if (size >= times.length) {
                return false;
            }
            put(size, time, key, v);
            size++;
            return true;
        }

        /** Puts a row behind those of no greater TIME; whether there was room. */
        boolean addByTime(int time, int key, long v) {
            if (size >= times.length) {
                return false;
            }
            int i = size;
            while (i > 0 && times[i - 1] > time) {
                put(i, times[i - 1], keys[i - 1], values[i - 1]);
                i--;
            }
            put(i, time, key, v);
            size++;
            return true;
        }

        /** Becomes the rows of another, by TIME, KEY and VALUE, so that equal sets become equal rows. */
        void sortFrom(Rows from) {
            size = 0;
            for (int i = 0; i < from.size; i++) {
                addSorted(from.timeAt(i), from.keyAt(i), from.valueAt(i));
            }
        }

        private void addSorted(int time, int key, long v) {
            if (size >= times.length) {
                return;
            }
            int i = size;
            while (i > 0 && isAbove(i - 1, time, key, v)) {
                put(i, times[i - 1], keys[i - 1], values[i - 1]);
                i--;
            }
            put(i, time, key, v);
            size++;
        }

        private boolean isAbove(int i, int time, int key, long v) {
            int order = orderAgainst(i, time, key);
            return order > 0 || order == 0 && valueAt(i) > v;
        }

        /** More than 0, 0, less than 0: the row's TIME and KEY stand behind those, are those, stand before them. */
        int orderAgainst(int i, int time, int key) {
            int byTime = Integer.compare(timeAt(i), time);
            return byTime != 0 ? byTime : Integer.compare(keyAt(i), key);
        }

        /** Whether both have a row at that place, and the same one. */
        boolean sameAt(int i, Rows other) {
            return i < size && i < other.size && orderAgainst(i, other.timeAt(i), other.keyAt(i)) == 0
                    && valueAt(i) == other.valueAt(i);
        }

        /** The first place at which the two are not the same; that behind the last, if they are alike. */
        int firstDifference(Rows other) {
            int i = 0;
            while (i < size && sameAt(i, other)) {
                i++;
            }
            return i;
        }

        int howManyOf(int time, int key) {
            int n = 0;
            for (int i = 0; i < size; i++) {
                if (orderAgainst(i, time, key) == 0) {
                    n++;
                }
            }
            return n;
        }

        /** The place of the next row of the same KEY, or NOWHERE. */
        int nextOfKey(int i) {
            int key = keyAt(i);
            for (int j = i + 1; j < size; j++) {
                if (keyAt(j) == key) {
                    return j;
                }
            }
            return NOWHERE;
        }

        private void put(int i, int time, int key, long v) {
            if (i >= 0 && i < times.length) {
                times[i] = time;
                keys[i] = key;
                values[i] = v;
            }
        }
    }

    /** An OPERATOR: its definition, what was JUDGED of it, what is TOLD of it. */
    private static final class Operator {
        private final Rows given = new Rows(MOST_GIVEN);
        private final Rows told = new Rows(MOST_TOLD);
        private int kind = READ;
        private int p = NOWHERE;
        private int q = NOWHERE;
        private int a = 0;
        private int b = 0;
        private boolean isUndone = false;
        private int zeroFailures = 0;
        private int indexFailures = 0;

        /** a and b are the numbers of the definition beside p and q, in the order in which the call has them. */
        void become(int newKind, int newP, int newQ, int newA, int newB) {
            kind = newKind;
            p = newP;
            q = newQ;
            a = newA;
            b = newB;
        }

        void startAgain() {
            given.empty();
            isUndone = false;
            zeroFailures = 0;
            indexFailures = 0;
        }

        void end(boolean isDone) {
            isUndone = !isDone;
            if (isUndone) {
                given.empty();
            }
        }

        void addFailure(int failure) {
            if (failure == BY_ZERO) {
                zeroFailures++;
            } else if (failure == BY_INDEX) {
                indexFailures++;
            }
        }

        int failuresBy(int failure) {
            return failure == BY_ZERO ? zeroFailures : indexFailures;
        }
    }

    /**
     * The definitions of the OPERATORS that are of others. Each answers whether the rows had room. They lean on the
     * rows of every OPERATOR rising by TIME: READ, SPANS, JOIN, MEET and FALLS make them so, the others leave them so.
     */
    private static final class Pass {
        private final Span span = new Span();
        private final int[] seen = new int[KEYS];

        boolean giveFrom(Operator o, Rows p, Rows q, Table table) {
            switch (o.kind) {
                case MAP:
                case KEEP:
                case REKEY:
                    return giveEach(o, p, table);
                case SPANS:
                    return giveSpans(o.given, p, o.a, o.b);
                case JOIN:
                    return giveJoin(o.given, p, q, o.a);
                case MEET:
                    return giveMeet(o.given, p, q);
                case FALLS:
                    return giveFalls(o.given, p, o.a);
                case FIRST:
                    return giveFirst(o.given, p, o.a);
                default:
                    return false;
            }
        }

        private static boolean giveEach(Operator o, Rows p, Table table) {
            for (int i = 0; i < p.size(); i++) {
                int failure = table.failureOf(o.a, p.valueAt(i), o.b);
                if (failure != NO_FAILURE) {
                    o.addFailure(failure);
                } else if (!giveOne(o, p, i, table.resultOf(o.a, p.valueAt(i), o.b))) {
                    return false;
                }
            }
            return true;
        }

        private static boolean giveOne(Operator o, Rows p, int i, long result) {
            if (o.kind == MAP) {
                return o.given.add(p.timeAt(i), p.keyAt(i), result);
            }
            if (o.kind == REKEY) {
                return o.given.add(p.timeAt(i), (int) Math.floorMod(result, (long) KEYS), p.valueAt(i));
            }
            return result <= 0 || o.given.add(p.timeAt(i), p.keyAt(i), p.valueAt(i));
        }

        private boolean giveSpans(Rows to, Rows p, int size, int how) {
            if (size < 1) {
                return false;
            }
            int open = NOWHERE;
            span.empty();
            for (int i = 0; i < p.size(); i++) {
                int number = p.timeAt(i) / size;
                if (number != open && !span.closeInto(to, (open + 1) * size - 1)) {
                    return false;
                }
                open = number;
                span.take(p.keyAt(i), p.valueAt(i), how);
            }
            return span.closeInto(to, (open + 1) * size - 1);
        }

        private static boolean giveJoin(Rows to, Rows p, Rows q, int w) {
            int near = 0;
            for (int i = 0; i < p.size(); i++) {
                int time = p.timeAt(i);
                int key = p.keyAt(i);
                while (near < q.size() && q.timeAt(near) < time - w) {
                    near++;
                }
                for (int j = near; j < q.size() && q.timeAt(j) <= time + w; j++) {
                    if (q.keyAt(j) == key && !givePair(to, p, i, q, j)) {
                        return false;
                    }
                }
            }
            return true;
        }

        private static boolean givePair(Rows to, Rows p, int i, Rows q, int j) {
            int time = Math.max(p.timeAt(i), q.timeAt(j));
            return to.addByTime(time, p.keyAt(i), 1000 * p.valueAt(i) + q.valueAt(j));
        }

        private static boolean giveMeet(Rows to, Rows p, Rows q) {
            int j = 0;
            for (int i = 0; i < p.size(); i++) {
                while (j < q.size() && q.timeAt(j) < p.timeAt(i)) {
                    if (!giveAgain(to, q, j)) {
                        return false;
                    }
                    j++;
                }
                if (!giveAgain(to, p, i)) {
                    return false;
                }
            }
            for (int k = j; k < q.size(); k++) {
                if (!giveAgain(to, q, k)) {
                    return false;
                }
            }
            return true;
        }

        private static boolean giveAgain(Rows to, Rows from, int i) {
            return to.add(from.timeAt(i), from.keyAt(i), from.valueAt(i));
        }

        private static boolean giveFalls(Rows to, Rows p, int w) {
            for (int i = 0; i < p.size(); i++) {
                int j = p.nextOfKey(i);
                if (j != NOWHERE && p.valueAt(j) < p.valueAt(i) && p.timeAt(j) - p.timeAt(i) <= w
                        && !to.addByTime(p.timeAt(j), p.keyAt(i), p.valueAt(i) - p.valueAt(j))) {
                    return false;
                }
            }
            return true;
        }

        private boolean giveFirst(Rows to, Rows p, int n) {
            for (int key = 0; key < seen.length; key++) {
                seen[key] = 0;
            }
            for (int i = 0; i < p.size(); i++) {
                if (sawFewerThan(n, p.keyAt(i)) && !giveAgain(to, p, i)) {
                    return false;
                }
            }
            return true;
        }

        private boolean sawFewerThan(int n, int key) {
            if (key < 0 || key >= seen.length || seen[key] >= n) {
                return false;
            }
            seen[key]++;
            return true;
        }
    }

    /** The one span of times that is open while the rows of an OPERATOR go by: for each KEY what it has so far. */
    private static final class Span {
        private final int[] counts = new int[KEYS];
        private final long[] results = new long[KEYS];

        void empty() {
            for (int key = 0; key < KEYS; key++) {
                counts[key] = 0;
                results[key] = 0;
            }
        }

        void take(int key, long v, int how) {
            if (key < 0 || key >= KEYS) {
                return;
            }
            results[key] = counts[key] == 0 ? startOf(v, how) : nextOf(results[key], v, how);
            counts[key]++;
        }

        private static long startOf(long v, int how) {
            return how == HOW_MANY ? 1 : v;
        }

        private static long nextOf(long before, long v, int how) {
            switch (how) {
                case SUM:
                    return before + v;
                case HOW_MANY:
                    return before + 1;
                case LEAST:
                    return Math.min(before, v);
                case GREATEST:
                    return Math.max(before, v);
                default:
                    return v;
            }
        }

        /** Gives a row for each KEY that has one, and is empty then; whether there was room. */
        boolean closeInto(Rows to, int time) {
            for (int key = 0; key < KEYS; key++) {
                if (counts[key] > 0 && !to.add(time, key, results[key])) {
                    return false;
                }
            }
            empty();
            return true;
        }
    }

    /** What is TOLD against what is JUDGED, and where the latest difference was. */
    private static final class Comparison {
        private final Rows sortedGiven = new Rows(MOST_GIVEN);
        private final Rows sortedTold = new Rows(MOST_TOLD);
        private boolean isDifferent = false;
        private int place = 0;
        private int time = 0;
        private int key = 0;

        void forget() {
            isDifferent = false;
        }

        boolean hasDifference() {
            return isDifferent;
        }

        int partOfDifference(int what) {
            if (what == 0) {
                return place;
            }
            return what == 1 ? time : key;
        }

        int byOrder(Rows given, Rows told) {
            int i = given.firstDifference(told);
            boolean isGiven = i < given.size();
            boolean isTold = i < told.size();
            if (!isGiven && !isTold) {
                forget();
                return ALIKE;
            }
            keep(i, isGiven ? given : told, i);
            if (isGiven && isTold) {
                return OTHER;
            }
            return isGiven ? TOO_FEW : TOO_MANY;
        }

        /** Where the sorted rows part, the lesser TIME and KEY is the least of which the VALUES are not the same. */
        int bySets(Rows given, Rows told) {
            sortedGiven.sortFrom(given);
            sortedTold.sortFrom(told);
            int i = sortedGiven.firstDifference(sortedTold);
            boolean isGiven = i < sortedGiven.size();
            boolean isTold = i < sortedTold.size();
            if (!isGiven && !isTold) {
                forget();
                return ALIKE;
            }
            boolean isGivenLesser = isGiven
                    && (!isTold || sortedGiven.orderAgainst(i, sortedTold.timeAt(i), sortedTold.keyAt(i)) <= 0);
            keep(NONE, isGivenLesser ? sortedGiven : sortedTold, i);
            return differenceOf(given.howManyOf(time, key), told.howManyOf(time, key));
        }

        private static int differenceOf(int givenCount, int toldCount) {
            if (givenCount == toldCount) {
                return OTHER;
            }
            return toldCount < givenCount ? TOO_FEW : TOO_MANY;
        }

        private void keep(int newPlace, Rows of, int i) {
            isDifferent = true;
            place = newPlace;
            time = of.timeAt(i);
            key = of.keyAt(i);
        }
    }
}

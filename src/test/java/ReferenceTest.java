import java.util.ArrayList;
import java.util.Comparator;
import java.util.List;
import java.util.Map;
import java.util.Random;
import java.util.TreeMap;
import java.util.TreeSet;

/** Runs of chosen calls, the same each time, against a second judge that is written as the document's words stand. */
public final class ReferenceTest {
    private static final int RUNS = 400;
    private static final int CALLS = 512;

    private record Row(int time, int key, long value) {
    }

    private record Arrival(int source, int time, int key, int value) {
    }

    private record Definition(int kind, int p, int q, int a, int b) {
    }

    private record Place(int time, int key) implements Comparable<Place> {
        public int compareTo(Place o) {
            return time != o.time ? Integer.compare(time, o.time) : Integer.compare(key, o.key);
        }
    }

    /** What is due, from the document alone; only calls with fit arguments reach it, and judge() when it is open. */
    private static final class Reference {
        final List<Arrival> arrivals = new ArrayList<>();
        final List<Boolean> lates = new ArrayList<>();
        final int[] table = new int[8];
        final List<Definition> definitions = new ArrayList<>();
        final List<List<Row>> told = new ArrayList<>();
        List<List<Row>> judged = null;
        int[][] fails = null;
        int failed = 0;

        void judge() {
            judged = new ArrayList<>();
            fails = new int[definitions.size()][2];
            for (int i = 0; i < definitions.size(); i++) {
                Definition d = definitions.get(i);
                boolean open = d.kind == 0 || judged.get(d.p) != null && judged.get(d.q) != null;
                List<Row> rows = open ? give(d, fails[i]) : null;
                judged.add(rows != null && rows.size() > 200 ? null : rows);
                failed += fails[i][0] + fails[i][1];
            }
        }

        private List<Row> give(Definition d, int[] kinds) {
            if (d.kind == 0) {
                return source(d.a);
            }
            List<Row> p = judged.get(d.p);
            List<Row> q = judged.get(d.q);
            switch (d.kind) {
                case 1: case 2: case 3: return each(d, p, kinds);
                case 4: return spans(p, d.a, d.b);
                case 5: return join(p, q, d.a);
                case 6: return meet(p, q);
                case 7: return falls(p, d.a);
                default: return first(p, d.a);
            }
        }

        private List<Row> source(int s) {
            List<Row> rows = new ArrayList<>();
            for (int i = 0; i < arrivals.size(); i++) {
                Arrival a = arrivals.get(i);
                if (a.source == s && !lates.get(i)) {
                    rows.add(new Row(a.time, a.key, a.value));
                }
            }
            rows.sort(Comparator.comparingInt(Row::time));
            return rows;
        }

        private List<Row> each(Definition d, List<Row> p, int[] kinds) {
            List<Row> rows = new ArrayList<>();
            for (Row r : p) {
                if ((d.a == 2 || d.a == 3) && d.b == 0) {
                    kinds[0]++;
                } else if (d.a == 4 && (r.value < 0 || r.value > 7)) {
                    kinds[1]++;
                } else {
                    long y = function(d.a, r.value, d.b);
                    if (d.kind == 1) {
                        rows.add(new Row(r.time, r.key, y));
                    } else if (d.kind == 3) {
                        rows.add(new Row(r.time, (int) ((y % 6 + 6) % 6), r.value));
                    } else if (y > 0) {
                        rows.add(r);
                    }
                }
            }
            return rows;
        }

        private long function(int f, long v, long c) {
            long low = v & 255;
            return switch (f) {
                case 0 -> v + c;
                case 1 -> v * c;
                case 2 -> v / c;
                case 3 -> v - v / c * c;
                case 4 -> table[(int) v];
                case 5 -> c - v;
                default -> low > 127 ? low - 256 : low;
            };
        }

        private static List<Row> spans(List<Row> p, int size, int how) {
            Map<Place, List<Long>> groups = new TreeMap<>();
            for (Row r : p) {
                Place at = new Place(r.time - r.time % size + size - 1, r.key);
                groups.computeIfAbsent(at, x -> new ArrayList<>()).add(r.value);
            }
            List<Row> rows = new ArrayList<>();
            groups.forEach((at, values) -> rows.add(new Row(at.time, at.key, folded(values, how))));
            return rows;
        }

        private static long folded(List<Long> values, int how) {
            return switch (how) {
                case 0 -> values.stream().mapToLong(x -> x).sum();
                case 1 -> values.size();
                case 2 -> values.stream().mapToLong(x -> x).min().getAsLong();
                case 3 -> values.stream().mapToLong(x -> x).max().getAsLong();
                default -> values.get(values.size() - 1);
            };
        }

        private static List<Row> join(List<Row> p, List<Row> q, int w) {
            List<Row> rows = new ArrayList<>();
            for (Row a : p) {
                for (Row b : q) {
                    if (a.key == b.key && Math.abs(a.time - b.time) <= w) {
                        rows.add(new Row(Math.max(a.time, b.time), a.key, 1000 * a.value + b.value));
                    }
                }
            }
            rows.sort(Comparator.comparingInt(Row::time));
            return rows;
        }

        private static List<Row> meet(List<Row> p, List<Row> q) {
            List<Row> rows = new ArrayList<>(p);
            rows.addAll(q);
            rows.sort(Comparator.comparingInt(Row::time));
            return rows;
        }

        private static List<Row> falls(List<Row> p, int w) {
            List<Row> rows = new ArrayList<>();
            for (int i = 0; i < p.size(); i++) {
                Row a = p.get(i);
                Row b = p.subList(i + 1, p.size()).stream().filter(r -> r.key == a.key).findFirst().orElse(null);
                if (b != null && b.value < a.value && b.time <= a.time + w) {
                    rows.add(new Row(b.time, a.key, a.value - b.value));
                }
            }
            rows.sort(Comparator.comparingInt(Row::time));
            return rows;
        }

        private static List<Row> first(List<Row> p, int n) {
            List<Row> rows = new ArrayList<>();
            for (Row r : p) {
                if (rows.stream().filter(x -> x.key == r.key).count() < n) {
                    rows.add(r);
                }
            }
            return rows;
        }

        /** The answer of compare(), and behind it those of where(0), where(1), where(2). */
        int[] compare(int op, int as) {
            return as == 0 ? byOrder(judged.get(op), told.get(op)) : bySets(judged.get(op), told.get(op));
        }

        private static int[] byOrder(List<Row> j, List<Row> t) {
            for (int i = 0; i < Math.max(j.size(), t.size()); i++) {
                if (i >= t.size()) {
                    return new int[] {1, i, j.get(i).time, j.get(i).key};
                }
                if (i >= j.size()) {
                    return new int[] {2, i, t.get(i).time, t.get(i).key};
                }
                if (!j.get(i).equals(t.get(i))) {
                    return new int[] {3, i, j.get(i).time, j.get(i).key};
                }
            }
            return new int[] {0, -4, -4, -4};
        }

        private static int[] bySets(List<Row> j, List<Row> t) {
            TreeSet<Place> places = new TreeSet<>();
            j.forEach(r -> places.add(new Place(r.time, r.key)));
            t.forEach(r -> places.add(new Place(r.time, r.key)));
            for (Place at : places) {
                List<Long> inJ = valuesAt(j, at);
                List<Long> inT = valuesAt(t, at);
                if (!inJ.equals(inT)) {
                    int answer = inT.size() < inJ.size() ? 1 : inT.size() > inJ.size() ? 2 : 3;
                    return new int[] {answer, -4, at.time, at.key};
                }
            }
            return new int[] {0, -4, -4, -4};
        }

        private static List<Long> valuesAt(List<Row> rows, Place at) {
            return rows.stream().filter(r -> r.time == at.time && r.key == at.key).map(Row::value).sorted().toList();
        }
    }

    private final Random random;
    private final OnePassJudge x = new OnePassJudge();
    private final Reference due = new Reference();
    private int[] found = {0, -4, -4, -4};

    private ReferenceTest(int seed) {
        random = new Random(seed);
    }

    public static void main(String[] args) {
        for (int seed = 0; seed < RUNS && Due.allWell(); seed++) {
            new ReferenceTest(seed).run(seed);
        }
        Due.end();
    }

    private void run(int seed) {
        int times = seed % 4 == 0 ? 1000 : seed % 4 == 1 ? 4 : 40;
        int keys = seed % 3 == 0 ? 6 : 2;
        for (int i = 0; i < CALLS && Due.allWell(); i++) {
            step(times, keys);
        }
        if (!Due.allWell()) {
            System.out.println("in the run of seed " + seed);
        }
    }

    private void step(int times, int keys) {
        int choice = random.nextInt(100);
        if (choice < 40) {
            addRow(times, keys);
        } else if (choice < 44) {
            changeRow();
        } else if (choice < 64) {
            addOperator(times);
        } else if (choice < 67) {
            drop();
        } else if (choice < 82) {
            judge();
        } else if (choice < 99) {
            tellAndCompare();
        } else if (random.nextInt(3) == 0) {
            clear();
        } else {
            Due.is("wipe()", x.wipe(), due.arrivals.size());
            due.arrivals.clear();
            due.lates.clear();
        }
    }

    private void addRow(int times, int keys) {
        Arrival a = new Arrival(random.nextInt(3), random.nextInt(times), random.nextInt(keys), someValue());
        boolean late = random.nextInt(8) == 0;
        boolean fits = due.arrivals.size() < 60;
        int want = fits ? due.arrivals.size() : OnePassJudge.FULL;
        Due.is("row " + a, x.row(a.source, a.time, a.key, a.value, late), want);
        if (fits) {
            due.arrivals.add(a);
            due.lates.add(late);
        }
    }

    private int someValue() {
        return random.nextBoolean() ? random.nextInt(12) - 2 : random.nextInt(2_000_001) - 1_000_000;
    }

    private void changeRow() {
        int i = random.nextInt(8);
        int v = random.nextInt();
        Due.is("item(" + i + ", " + v + ")", x.item(i, v), due.table[i]);
        due.table[i] = v;
        if (!due.arrivals.isEmpty()) {
            int r = random.nextInt(due.arrivals.size());
            boolean on = random.nextBoolean();
            Due.is("late(" + r + ", " + on + ")", x.late(r, on), due.lates.set(r, on) ? 1 : 0);
        }
    }

    private void addOperator(int times) {
        int n = due.definitions.size();
        Definition d = chooseDefinition(n, times);
        int want = n < 12 ? n : OnePassJudge.FULL;
        Due.is(d.toString(), call(d), want);
        if (n < 12) {
            due.definitions.add(d);
            due.told.add(new ArrayList<>());
            forgetJudged();
        }
    }

    private Definition chooseDefinition(int n, int times) {
        int kind = n == 0 || random.nextInt(4) == 0 ? 0 : 1 + random.nextInt(8);
        int p = kind == 0 ? 0 : random.nextInt(n);
        int q = kind == 5 || kind == 6 ? random.nextInt(n) : p;
        int[] numbers = {-3, -1, 0, 1, 2, 6, 1000, Integer.MAX_VALUE, Integer.MIN_VALUE};
        int c = numbers[random.nextInt(numbers.length)];
        return switch (kind) {
            case 0 -> new Definition(0, 0, 0, random.nextInt(3), 0);
            case 1, 2, 3 -> new Definition(kind, p, p, random.nextInt(7), c);
            case 4 -> new Definition(4, p, p, 1 + random.nextInt(times), random.nextInt(5));
            case 5 -> new Definition(5, p, q, random.nextInt(times) / 2, 0);
            case 6 -> new Definition(6, p, q, 0, 0);
            case 7 -> new Definition(7, p, p, random.nextInt(times), 0);
            default -> new Definition(8, p, p, random.nextInt(5), 0);
        };
    }

    private int call(Definition d) {
        return switch (d.kind) {
            case 0 -> x.read(d.a);
            case 1, 2, 3 -> x.each(d.kind - 1, d.p, d.a, d.b);
            case 4 -> x.spans(d.p, d.a, d.b);
            case 5 -> x.join(d.p, d.q, d.a);
            case 6 -> x.meet(d.p, d.q);
            case 7 -> x.falls(d.p, d.a);
            default -> x.first(d.p, d.a);
        };
    }

    private void drop() {
        int n = due.definitions.size();
        Due.is("drop()", x.drop(), n == 0 ? OnePassJudge.STATE : n - 1);
        if (n > 0) {
            due.definitions.remove(n - 1);
            due.told.remove(n - 1);
            forgetJudged();
        }
    }

    private void clear() {
        Due.is("clear()", x.clear(), due.definitions.size());
        due.arrivals.clear();
        due.lates.clear();
        due.definitions.clear();
        due.told.clear();
        java.util.Arrays.fill(due.table, 0);
        forgetJudged();
    }

    private void forgetJudged() {
        due.judged = null;
        found = new int[] {0, -4, -4, -4};
    }

    private void judge() {
        if (due.definitions.isEmpty()) {
            Due.is("judge()", x.judge(), OnePassJudge.STATE);
        } else if (due.failed >= 3000) {
            Due.is("judge()", x.judge(), OnePassJudge.SPENT);
        } else {
            due.judge();
            Due.is("judge()", x.judge(), due.judged.stream().filter(r -> r != null).count());
            found = new int[] {0, -4, -4, -4};
        }
        checkAll();
    }

    private void checkAll() {
        Due.is("count(0)", x.count(0), due.arrivals.size());
        Due.is("count(1)", x.count(1), due.definitions.size());
        Due.is("count(2)", x.count(2), due.failed);
        for (int op = 0; due.judged != null && op < due.judged.size(); op++) {
            Due.is("fails(" + op + ", 0)", x.fails(op, 0), due.fails[op][0]);
            Due.is("fails(" + op + ", 1)", x.fails(op, 1), due.fails[op][1]);
            List<Row> rows = due.judged.get(op);
            if (rows == null) {
                Due.is("rows(" + op + ")", x.rows(op), OnePassJudge.UNDONE);
                continue;
            }
            long[] flat = new long[3 * rows.size()];
            for (int i = 0; i < rows.size(); i++) {
                flat[3 * i] = rows.get(i).time;
                flat[3 * i + 1] = rows.get(i).key;
                flat[3 * i + 2] = rows.get(i).value;
            }
            Due.rows(due.definitions.get(op).toString(), x, op, flat);
        }
    }

    private void tellAndCompare() {
        if (due.definitions.isEmpty()) {
            return;
        }
        int op = random.nextInt(due.definitions.size());
        if (random.nextInt(3) > 0) {
            Due.is("untell(" + op + ")", x.untell(op), due.told.get(op).size());
            due.told.get(op).clear();
            for (Row r : nearlyWhatIsJudged(op)) {
                tell(op, r);
            }
        }
        compare(op, random.nextInt(2));
        compare(op, random.nextInt(2));
    }

    private List<Row> nearlyWhatIsJudged(int op) {
        List<Row> rows = new ArrayList<>();
        if (due.judged != null && due.judged.get(op) != null) {
            rows.addAll(due.judged.get(op));
        }
        if (random.nextBoolean()) {
            java.util.Collections.shuffle(rows, random);
        }
        if (random.nextBoolean() && !rows.isEmpty()) {
            int i = random.nextInt(rows.size());
            Row r = rows.get(i);
            switch (random.nextInt(5)) {
                case 0 -> rows.remove(i);
                case 1 -> rows.add(r);
                case 2 -> rows.set(i, new Row(r.time, r.key, r.value + 1));
                case 3 -> rows.set(i, new Row(r.time, (r.key + 1) % 6, r.value));
                default -> rows.set(i, new Row(r.time + 1, r.key, r.value));
            }
        }
        return rows;
    }

    private void tell(int op, Row r) {
        int n = due.told.get(op).size();
        Due.is("tell", x.tell(op, r.time, r.key, r.value), n < 40 ? n + 1 : OnePassJudge.FULL);
        if (n < 40) {
            due.told.get(op).add(r);
        }
    }

    private void compare(int op, int as) {
        String call = "compare(" + op + ", " + as + ")";
        if (due.judged == null) {
            Due.is(call, x.compare(op, as), OnePassJudge.STATE);
        } else if (due.judged.get(op) == null) {
            Due.is(call, x.compare(op, as), OnePassJudge.UNDONE);
        } else {
            found = due.compare(op, as);
            Due.is(call, x.compare(op, as), found[0]);
        }
        for (int what = 0; what < 3; what++) {
            Due.is(call + ", where(" + what + ")", x.where(what), found[what + 1]);
        }
    }
}

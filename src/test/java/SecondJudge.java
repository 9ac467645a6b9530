import java.util.ArrayList;
import java.util.Arrays;
import java.util.Comparator;
import java.util.List;
import java.util.Map;
import java.util.TreeMap;
import java.util.TreeSet;

/** The judge once more, as plainly as the document's words stand, with lists that grow: its answers are those due. */
final class SecondJudge {
    record Row(int time, int key, long value) {
    }

    private record Arrival(int source, int time, int key, int value) {
    }

    private record Definition(String kind, int p, int q, int a, int b) {
    }

    private record Place(int time, int key) implements Comparable<Place> {
        public int compareTo(Place o) {
            return time != o.time ? Integer.compare(time, o.time) : Integer.compare(key, o.key);
        }
    }

    private static final String[] EACH = {"MAP", "KEEP", "REKEY"};

    private final List<Arrival> arrivals = new ArrayList<>();
    private final List<Boolean> lates = new ArrayList<>();
    private final int[] table = new int[8];
    private final List<Definition> definitions = new ArrayList<>();
    private final List<List<Row>> told = new ArrayList<>();
    /** Null: nothing is JUDGED; null inside: that OPERATOR is UNDONE. */
    private List<List<Row>> judged = null;
    private int[][] fails = new int[0][2];
    private int failed = 0;
    /** Place, TIME, KEY of the latest compare(), or null. */
    private int[] difference = null;

    public int row(int source, int time, int key, int v, boolean late) {
        if (!in(source, 0, 2) || !in(time, 0, 999) || !in(key, 0, 5) || !in(v, -1_000_000, 1_000_000)) {
            return -1;
        }
        if (arrivals.size() == 60) {
            return -2;
        }
        arrivals.add(new Arrival(source, time, key, v));
        lates.add(late);
        return arrivals.size() - 1;
    }

    public int late(int i, boolean on) {
        if (!in(i, 0, arrivals.size() - 1)) {
            return -1;
        }
        return lates.set(i, on) ? 1 : 0;
    }

    public int item(int i, int v) {
        if (!in(i, 0, 7)) {
            return -1;
        }
        int before = table[i];
        table[i] = v;
        return before;
    }

    public int wipe() {
        int before = arrivals.size();
        arrivals.clear();
        lates.clear();
        return before;
    }

    public int read(int s) {
        return add(in(s, 0, 2), new Definition("READ", 0, 0, s, 0));
    }

    public int each(int which, int p, int f, int c) {
        boolean fit = in(which, 0, 2) && isOperator(p) && in(f, 0, 6);
        return add(fit, new Definition(fit ? EACH[which] : "", p, p, f, c));
    }

    public int spans(int p, int size, int how) {
        return add(isOperator(p) && in(size, 1, 1000) && in(how, 0, 4), new Definition("SPANS", p, p, size, how));
    }

    public int join(int p, int q, int w) {
        return add(isOperator(p) && isOperator(q) && in(w, 0, 1000), new Definition("JOIN", p, q, w, 0));
    }

    public int meet(int p, int q) {
        return add(isOperator(p) && isOperator(q), new Definition("MEET", p, q, 0, 0));
    }

    public int falls(int p, int w) {
        return add(isOperator(p) && in(w, 0, 1000), new Definition("FALLS", p, p, w, 0));
    }

    public int first(int p, int n) {
        return add(isOperator(p) && in(n, 0, 200), new Definition("FIRST", p, p, n, 0));
    }

    public int drop() {
        if (definitions.isEmpty()) {
            return -3;
        }
        definitions.remove(definitions.size() - 1);
        told.remove(told.size() - 1);
        judged = null;
        return definitions.size();
    }

    public int judge() {
        if (definitions.isEmpty()) {
            return -3;
        }
        if (failed >= 3000) {
            return -5;
        }
        judged = new ArrayList<>();
        fails = new int[definitions.size()][2];
        difference = null;
        for (int i = 0; i < definitions.size(); i++) {
            List<Row> rows = give(definitions.get(i), fails[i]);
            judged.add(rows == null || rows.size() > 200 ? null : rows);
            failed += fails[i][0] + fails[i][1];
        }
        return (int) judged.stream().filter(rows -> rows != null).count();
    }

    public int rows(int op) {
        if (!isOperator(op)) {
            return -1;
        }
        if (judged == null) {
            return -3;
        }
        return judged.get(op) == null ? -6 : judged.get(op).size();
    }

    public int told(int op, int i, int what) {
        if (!isOperator(op) || !in(what, 0, 1)) {
            return -1;
        }
        if (rows(op) < 0) {
            return rows(op);
        }
        if (!in(i, 0, rows(op) - 1)) {
            return -4;
        }
        Row r = judged.get(op).get(i);
        return what == 0 ? r.time : r.key;
    }

    public long value(int op, int i) {
        return rows(op) > 0 && in(i, 0, rows(op) - 1) ? judged.get(op).get(i).value : 0;
    }

    public int fails(int op, int kind) {
        if (!isOperator(op) || !in(kind, 0, 1)) {
            return -1;
        }
        return judged == null ? -3 : fails[op][kind];
    }

    public int tell(int op, int time, int key, long v) {
        if (!isOperator(op) || !in(time, 0, 20_000) || !in(key, 0, 5)) {
            return -1;
        }
        if (told.get(op).size() == 40) {
            return -2;
        }
        told.get(op).add(new Row(time, key, v));
        return told.get(op).size();
    }

    public int untell(int op) {
        if (!isOperator(op)) {
            return -1;
        }
        int before = told.get(op).size();
        told.get(op).clear();
        return before;
    }

    public int compare(int op, int as) {
        if (!isOperator(op) || !in(as, 0, 1)) {
            return -1;
        }
        if (rows(op) < 0) {
            return rows(op);
        }
        difference = null;
        return as == 0 ? byOrder(judged.get(op), told.get(op)) : bySets(judged.get(op), told.get(op));
    }

    public int where(int what) {
        if (!in(what, 0, 2)) {
            return -1;
        }
        return judged == null || difference == null ? -4 : difference[what];
    }

    public int count(int what) {
        int[] counts = {arrivals.size(), definitions.size(), failed};
        return in(what, 0, 2) ? counts[what] : -1;
    }

    public int clear() {
        int before = definitions.size();
        wipe();
        definitions.clear();
        told.clear();
        Arrays.fill(table, 0);
        judged = null;
        return before;
    }

    /** What is JUDGED of an OPERATOR; none, if that can't be told. */
    List<Row> judgedOf(int op) {
        return rows(op) < 0 ? List.of() : judged.get(op);
    }

    private static boolean in(int n, int least, int most) {
        return n >= least && n <= most;
    }

    private boolean isOperator(int i) {
        return in(i, 0, definitions.size() - 1);
    }

    private int add(boolean fit, Definition d) {
        if (!fit) {
            return -1;
        }
        if (definitions.size() == 12) {
            return -2;
        }
        definitions.add(d);
        told.add(new ArrayList<>());
        judged = null;
        return definitions.size() - 1;
    }

    /** The rows of an OPERATOR, be they too many; null: it is of one that is UNDONE. */
    private List<Row> give(Definition d, int[] kinds) {
        if (d.kind.equals("READ")) {
            return source(d.a);
        }
        List<Row> p = judged.get(d.p);
        List<Row> q = judged.get(d.q);
        if (p == null || q == null) {
            return null;
        }
        return switch (d.kind) {
            case "SPANS" -> spansOf(p, d.a, d.b);
            case "JOIN" -> joinOf(p, q, d.a);
            case "MEET" -> meetOf(p, q);
            case "FALLS" -> fallsOf(p, d.a);
            case "FIRST" -> firstOf(p, d.a);
            default -> eachOf(d, p, kinds);
        };
    }

    private List<Row> source(int s) {
        List<Row> rows = new ArrayList<>();
        for (int i = 0; i < arrivals.size(); i++) {
            Arrival a = arrivals.get(i);
            if (a.source == s && !lates.get(i)) {
                rows.add(new Row(a.time, a.key, a.value));
            }
        }
        rows.sort(Comparator.comparingInt(Row::time));
        return rows;
    }

    private List<Row> eachOf(Definition d, List<Row> p, int[] kinds) {
        List<Row> rows = new ArrayList<>();
        for (Row r : p) {
            if ((d.a == 2 || d.a == 3) && d.b == 0) {
                kinds[0]++;
            } else if (d.a == 4 && (r.value < 0 || r.value > 7)) {
                kinds[1]++;
            } else {
                long y = function(d.a, r.value, d.b);
                if (d.kind.equals("MAP")) {
                    rows.add(new Row(r.time, r.key, y));
                } else if (d.kind.equals("REKEY")) {
                    rows.add(new Row(r.time, (int) ((y % 6 + 6) % 6), r.value));
                } else if (y > 0) {
                    rows.add(r);
                }
            }
        }
        return rows;
    }

    private long function(int f, long v, long c) {
        long low = v & 255;
        return switch (f) {
            case 0 -> v + c;
            case 1 -> v * c;
            case 2 -> v / c;
            case 3 -> v - v / c * c;
            case 4 -> table[(int) v];
            case 5 -> c - v;
            default -> low > 127 ? low - 256 : low;
        };
    }

    private static List<Row> spansOf(List<Row> p, int size, int how) {
        Map<Place, List<Long>> groups = new TreeMap<>();
        for (Row r : p) {
            Place at = new Place(r.time - r.time % size + size - 1, r.key);
            groups.computeIfAbsent(at, x -> new ArrayList<>()).add(r.value);
        }
        List<Row> rows = new ArrayList<>();
        groups.forEach((at, values) -> rows.add(new Row(at.time, at.key, folded(values, how))));
        return rows;
    }

    private static long folded(List<Long> values, int how) {
        return switch (how) {
            case 0 -> values.stream().mapToLong(x -> x).sum();
            case 1 -> values.size();
            case 2 -> values.stream().mapToLong(x -> x).min().getAsLong();
            case 3 -> values.stream().mapToLong(x -> x).max().getAsLong();
            default -> values.get(values.size() - 1);
        };
    }

    private static List<Row> joinOf(List<Row> p, List<Row> q, int w) {
        List<Row> rows = new ArrayList<>();
        for (Row a : p) {
            for (Row b : q) {
                if (a.key == b.key && Math.abs(a.time - b.time) <= w) {
                    rows.add(new Row(Math.max(a.time, b.time), a.key, 1000 * a.value + b.value));
                }
            }
        }
        rows.sort(Comparator.comparingInt(Row::time));
        return rows;
    }

    private static List<Row> meetOf(List<Row> p, List<Row> q) {
        List<Row> rows = new ArrayList<>(p);
        rows.addAll(q);
        rows.sort(Comparator.comparingInt(Row::time));
        return rows;
    }

    private static List<Row> fallsOf(List<Row> p, int w) {
        List<Row> rows = new ArrayList<>();
        for (int i = 0; i < p.size(); i++) {
            Row a = p.get(i);
            Row b = p.subList(i + 1, p.size()).stream().filter(r -> r.key == a.key).findFirst().orElse(null);
            if (b != null && b.value < a.value && b.time <= a.time + w) {
                rows.add(new Row(b.time, a.key, a.value - b.value));
            }
        }
        rows.sort(Comparator.comparingInt(Row::time));
        return rows;
    }

    private static List<Row> firstOf(List<Row> p, int n) {
        List<Row> rows = new ArrayList<>();
        for (Row r : p) {
            if (rows.stream().filter(x -> x.key == r.key).count() < n) {
                rows.add(r);
            }
        }
        return rows;
    }

    private int byOrder(List<Row> j, List<Row> t) {
        for (int i = 0; i < Math.max(j.size(), t.size()); i++) {
            if (i < j.size() && i < t.size() && j.get(i).equals(t.get(i))) {
                continue;
            }
            Row at = i < j.size() ? j.get(i) : t.get(i);
            difference = new int[] {i, at.time, at.key};
            return i >= t.size() ? 1 : i >= j.size() ? 2 : 3;
        }
        return 0;
    }

    private int bySets(List<Row> j, List<Row> t) {
        TreeSet<Place> places = new TreeSet<>();
        j.forEach(r -> places.add(new Place(r.time, r.key)));
        t.forEach(r -> places.add(new Place(r.time, r.key)));
        for (Place at : places) {
            List<Long> inJ = valuesAt(j, at);
            List<Long> inT = valuesAt(t, at);
            if (!inJ.equals(inT)) {
                difference = new int[] {-4, at.time, at.key};
                return inT.size() < inJ.size() ? 1 : inT.size() > inJ.size() ? 2 : 3;
            }
        }
        return 0;
    }

    private static List<Long> valuesAt(List<Row> rows, Place at) {
        return rows.stream().filter(r -> r.time == at.time && r.key == at.key).map(Row::value).sorted().toList();
    }
}

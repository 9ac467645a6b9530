/** The boundary cases that part 1 of the document's terms and promises 1 to 5 name. */
public final class RowBoundsTest {
    private static final int BAD = OnePassJudge.BAD;
    private static final int FULL = OnePassJudge.FULL;
    private static final int LEAST = Integer.MIN_VALUE;
    private static final int MOST = Integer.MAX_VALUE;
    private static final long LEAST_LONG = Long.MIN_VALUE;
    private static final long MOST_LONG = Long.MAX_VALUE;

    public static void main(String[] args) {
        sixtyRowsAtMost();
        sixtyLateRowsAreFullToo();
        sixtyRowsAgainBehindWipe();
        rowsAtTheirBounds();
        numberOfOneSource();
        lateAtItsBounds();
        eightItems();
        itemsOfAnyValue();
        plusAndLessWrap();
        timesWraps();
        divisionIsCut();
        divisionOfTheLeastLong();
        zeroFails();
        indexFails();
        indexFailsByTheWholeLong();
        eightBitsWithTheirSign();
        wipeOfNone();
        Due.end();
    }

    /** The one row that MAP f, c gives for a row of this VALUE. */
    private static void map(int v, int f, int c, long due) {
        OnePassJudge x = Made.with(0, 0, 0, v);
        x.read(0);
        x.each(0, 0, f, c);
        x.judge();
        Due.rows("MAP of " + v + " by " + f + ", " + c, x, 1, 0, 0, due);
        Due.is("no failure", x.count(2), 0);
    }

    /** MAP f, c of that row leaves it out, by this kind. */
    private static void mapFails(int v, int f, int c, int kind) {
        OnePassJudge x = Made.with(0, 0, 0, v);
        x.read(0);
        x.each(0, 0, f, c);
        x.judge();
        String what = "MAP of " + v + " by " + f + ", " + c;
        Due.rows(what, x, 1);
        Due.is(what + ": fails(1, " + kind + ")", x.fails(1, kind), 1);
        Due.is(what + ": fails(1, " + (1 - kind) + ")", x.fails(1, 1 - kind), 0);
        Due.is(what + ": count(2)", x.count(2), 1);
    }

    /** MAP f, c of the longs with these upper halves; 3 VALUES of each are due: of the long, one less, one more. */
    private static void mapOfLongs(int f, int c, int[] uppers, long... due) {
        OnePassJudge x = Made.withLongs(uppers);
        x.each(0, 3, 0, -1);
        x.each(0, 3, 0, 1);
        for (int op = 3; op < 6; op++) {
            x.each(0, op, f, c);
        }
        x.judge();
        for (int i = 0; i < uppers.length; i++) {
            for (int k = 0; k < 3; k++) {
                int op = 6 + k;
                String what = "MAP by " + f + ", " + c + ": value(" + op + ", " + i + ")";
                Due.is(what, x.value(op, i), due[3 * i + k]);
            }
        }
    }

    private static void sixtyRowsAtMost() {
        OnePassJudge x = new OnePassJudge();
        Made.addAlike(x, 59, 0, 0, 0);
        Due.is("1 the 60th", x.row(2, 999, 5, 1_000_000, false), 59);
        Due.is("1 the 61st", x.row(2, 999, 5, 1_000_000, false), FULL);
        Due.is("1 the 61st, LATE", x.row(2, 999, 5, 1_000_000, true), FULL);
        Due.is("1 count(0)", x.count(0), 60);
        x.read(2);
        x.read(0);
        x.judge();
        Due.rows("1 what was refused is not there", x, 0, 999, 5, 1_000_000);
        Due.is("1 the others are", x.rows(1), 59);
        Due.is("1 the last of them", x.value(1, 58), 58);
    }

    private static void sixtyLateRowsAreFullToo() {
        OnePassJudge x = new OnePassJudge();
        for (int i = 0; i < 60; i++) {
            x.row(0, 0, 0, 0, true);
        }
        Due.is("1 FULL of LATE ones", x.row(0, 0, 0, 0, false), FULL);
        x.read(0);
        Due.is("1 judge()", x.judge(), 1);
        Due.rows("1 all are LATE", x, 0);
    }

    private static void sixtyRowsAgainBehindWipe() {
        OnePassJudge x = new OnePassJudge();
        Made.addAlike(x, 60, 1, 1, 1);
        Due.is("5 wipe() of 60", x.wipe(), 60);
        Due.is("5 late(0)", x.late(0, true), BAD);
        Made.addAlike(x, 60, 1, 2, 2);
        Due.is("1 FULL again", x.row(0, 0, 0, 0, false), FULL);
        x.read(1);
        x.judge();
        Due.is("5 the new ones alone", x.rows(0), 60);
        Due.is("5 the first", x.told(0, 0, 0), 2);
        Due.is("5 clear()", x.clear(), 1);
        Made.addAlike(x, 60, 1, 3, 3);
        Due.is("1 FULL behind clear()", x.row(0, 0, 0, 0, false), FULL);
    }

    private static void rowsAtTheirBounds() {
        OnePassJudge x = Made.with(0, 0, 0, -1_000_000, 1, 0, 5, 1_000_000, 2, 999, 0, 0, 2, 999, 5, -1, 2, 0, 0, 1);
        for (int s = 0; s < 3; s++) {
            x.read(s);
        }
        x.judge();
        Due.rows("1 SOURCE 0", x, 0, 0, 0, -1_000_000);
        Due.rows("1 SOURCE 1", x, 1, 0, 5, 1_000_000);
        Due.rows("1 SOURCE 2", x, 2, 0, 0, 1, 999, 0, 0, 999, 5, -1);
    }

    private static void numberOfOneSource() {
        OnePassJudge x = Made.with(1, 5, 0, 10, 0, 5, 0, 11, 1, 5, 0, 9, 2, 4, 0, 12, 1, 4, 0, 8, 1, 5, 0, 7,
                1, 4, 0, 13);
        x.read(1);
        x.judge();
        Due.rows("1 by TIME, then NUMBER", x, 0, 4, 0, 8, 4, 0, 13, 5, 0, 10, 5, 0, 9, 5, 0, 7);
        x.late(2, true);
        x.judge();
        x.late(2, false);
        x.judge();
        Due.rows("1 the NUMBER stays, when a row was LATE for a while", x, 0,
                4, 0, 8, 4, 0, 13, 5, 0, 10, 5, 0, 9, 5, 0, 7);
    }

    private static void lateAtItsBounds() {
        OnePassJudge x = new OnePassJudge();
        Made.addAlike(x, 60, 0, 0, 0);
        Due.is("3 late(0)", x.late(0, true), 0);
        Due.is("3 late(59)", x.late(59, true), 0);
        Due.is("3 late(-1)", x.late(-1, true), BAD);
        Due.is("3 late(60)", x.late(60, true), BAD);
        Due.is("3 late(0) again", x.late(0, true), 1);
        Due.is("3 late(59) off", x.late(59, false), 1);
        x.read(0);
        x.judge();
        Due.is("3 one is LATE", x.rows(0), 59);
        Due.is("3 the first of the others", x.value(0, 0), 1);
        Due.is("3 the last of the others", x.value(0, 58), 59);
    }

    private static void eightItems() {
        OnePassJudge x = new OnePassJudge();
        for (int i = 0; i < 8; i++) {
            Due.is("1 ITEM " + i + " is 0 at first", x.item(i, 10 + i), 0);
        }
        Due.is("4 item(-1)", x.item(-1, 5), BAD);
        Due.is("4 item(8)", x.item(8, 5), BAD);
        for (int i = 0; i < 8; i++) {
            Due.is("4 ITEM " + i + " is one of its own", x.item(i, 0), 10 + i);
        }
    }

    private static void itemsOfAnyValue() {
        OnePassJudge x = Made.with(0, 0, 0, 0, 0, 1, 0, 7);
        x.item(0, LEAST);
        x.item(7, MOST);
        x.read(0);
        x.each(0, 0, 4, 0);
        x.judge();
        Due.rows("4 any v", x, 1, 0, 0, LEAST, 1, 0, MOST);
        Due.is("4 what it was", x.item(0, -1), LEAST);
        Due.is("4 what it was, be it a refusal's number", x.item(0, 0), -1);
        Due.is("4 what it was", x.item(7, 0), MOST);
    }

    private static void plusAndLessWrap() {
        int[] least = {LEAST};
        mapOfLongs(0, -1, least, MOST_LONG, MOST_LONG - 1, LEAST_LONG);
        mapOfLongs(0, 1, least, LEAST_LONG + 1, LEAST_LONG, LEAST_LONG + 2);
        mapOfLongs(0, MOST, least, LEAST_LONG + MOST, MOST_LONG + MOST, LEAST_LONG + 1 + MOST);
        mapOfLongs(5, 0, least, LEAST_LONG, LEAST_LONG + 1, MOST_LONG);
        mapOfLongs(5, -2, least, MOST_LONG - 1, MOST_LONG, MOST_LONG - 2);
        map(1_000_000, 0, MOST, 1_000_000L + MOST);
        map(-1_000_000, 0, LEAST, -1_000_000L + LEAST);
        map(-1_000_000, 5, MOST, 1_000_000L + MOST);
        map(1_000_000, 5, LEAST, -1_000_000L + LEAST);
    }

    private static void timesWraps() {
        mapOfLongs(1, 2, new int[] {LEAST, 1 << 30}, 0, -2, 2, LEAST_LONG, MOST_LONG - 1, LEAST_LONG + 2);
        mapOfLongs(1, -1, new int[] {LEAST}, LEAST_LONG, LEAST_LONG + 1, MOST_LONG);
        mapOfLongs(1, LEAST, new int[] {1, 2},
                LEAST_LONG, LEAST_LONG - LEAST, LEAST_LONG + LEAST, 0, -(long) LEAST, LEAST);
        map(1_000_000, 1, LEAST, -2_147_483_648_000_000L);
        map(5, 1, 0, 0);
    }

    private static void divisionIsCut() {
        map(7, 2, 2, 3);
        map(-7, 2, 2, -3);
        map(7, 2, -2, -3);
        map(-7, 2, -2, 3);
        map(-1, 2, 2, 0);
        map(1_000_000, 2, MOST, 0);
        map(7, 3, 2, 1);
        map(-7, 3, 2, -1);
        map(7, 3, -2, 1);
        map(-7, 3, -2, -1);
        map(-1_000_000, 3, LEAST, -1_000_000);
        map(6, 3, 6, 0);
        map(5, 3, 6, 5);
    }

    private static void divisionOfTheLeastLong() {
        int[] least = {LEAST};
        mapOfLongs(2, -1, least, LEAST_LONG, LEAST_LONG + 1, MOST_LONG);
        mapOfLongs(3, -1, least, 0, 0, 0);
        mapOfLongs(2, 1, least, LEAST_LONG, MOST_LONG, LEAST_LONG + 1);
        mapOfLongs(2, LEAST, least, 1L << 32, -(1L << 32) + 1, (1L << 32) - 1);
        mapOfLongs(3, LEAST, least, 0, MOST, LEAST + 1);
    }

    private static void zeroFails() {
        for (int f = 2; f <= 3; f++) {
            mapFails(0, f, 0, 0);
            mapFails(7, f, 0, 0);
            mapFails(-1_000_000, f, 0, 0);
            map(0, f, 1, 0);
            map(0, f, -1, 0);
        }
        map(9, 2, 1, 9);
        map(9, 2, -1, -9);
        for (int f : new int[] {0, 1, 4, 5, 6}) {
            map(0, f, 0, 0);
        }
    }

    private static void indexFails() {
        for (int c : new int[] {-1, 0, 7, 8}) {
            mapFails(-1, 4, c, 1);
            map(0, 4, c, 0);
            map(7, 4, c, 0);
            mapFails(8, 4, c, 1);
        }
        mapFails(1_000_000, 4, 0, 1);
        mapFails(-1_000_000, 4, 0, 1);
    }

    private static void indexFailsByTheWholeLong() {
        OnePassJudge x = Made.withLongs(0, 1, LEAST, -1, MOST);
        x.each(0, 3, 0, 7);
        x.each(0, 3, 4, 0);
        x.each(0, 4, 4, 0);
        x.each(0, 3, 0, 8);
        x.each(0, 7, 4, 0);
        x.judge();
        Due.rows("1 ITEM 0 alone, not those of 0 below and more above", x, 5, 0, 0, 0);
        Due.is("1 fails(5, 1)", x.fails(5, 1), 4);
        Due.rows("1 ITEM 7 alone", x, 6, 0, 0, 0);
        Due.is("1 fails(6, 1)", x.fails(6, 1), 4);
        Due.rows("1 no ITEM 8", x, 8);
        Due.is("1 fails(8, 1)", x.fails(8, 1), 5);
    }

    private static void eightBitsWithTheirSign() {
        int[][] due = {{0, 0}, {127, 127}, {128, -128}, {255, -1}, {256, 0}, {383, 127}, {384, -128}, {-1, -1},
            {-128, -128}, {-129, 127}, {-256, 0}, {1_000_000, 64}, {-1_000_000, -64}};
        for (int[] d : due) {
            map(d[0], 6, 0, d[1]);
            map(d[0], 6, MOST, d[1]);
        }
        mapOfLongs(6, 0, new int[] {LEAST, 1}, 0, -1, 1, 0, -1, 1);
    }

    private static void wipeOfNone() {
        OnePassJudge x = new OnePassJudge();
        Due.is("5 wipe() of none", x.wipe(), 0);
        x.row(0, 0, 0, 0, true);
        Due.is("5 LATE ones are ROWS", x.wipe(), 1);
        Due.is("5 wipe() again", x.wipe(), 0);
        Due.is("5 numbers begin at 0 again", x.row(0, 0, 0, 0, false), 0);
    }
}

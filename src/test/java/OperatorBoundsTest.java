/** The boundary cases that part 2 of the document's terms and promises 6 to 13 name. */
public final class OperatorBoundsTest {
    private static final int BAD = OnePassJudge.BAD;
    private static final int FULL = OnePassJudge.FULL;
    private static final int STATE = OnePassJudge.STATE;
    private static final int UNDONE = OnePassJudge.UNDONE;
    private static final int LEAST = Integer.MIN_VALUE;
    private static final long LEAST_LONG = Long.MIN_VALUE;
    private static final long MOST_LONG = Long.MAX_VALUE;

    public static void main(String[] args) {
        twelveOperatorsOfEachKind();
        twelveAgainBehindDropAndClear();
        noneOfItself();
        readOfNone();
        keepMoreThanZero();
        keepByWhatWrapped();
        rekeyModuloSix();
        rekeyOfLongs();
        spansOfOneTime();
        spansOfAllTimes();
        spanBeginsWhereTheLastEnds();
        spansBehindTheLastTime();
        spansOfElevenLevels();
        spanSumsWrap();
        spanLeastAndGreatestOfLongs();
        spansOfNone();
        joinJustSoFarApart();
        joinAThousandApart();
        joinWraps();
        joinOf200();
        meetOf200();
        meetIsFullBeforeTheLastOfP();
        fallsNotOfTheSameValue();
        fallsJustSoFarAbove();
        fallsToTheNextAlone();
        fallsOfLongs();
        firstOfNoneAndOf200();
        firstOfEachKey();
        undoneOnesMakeUndone();
        undoneOnesBecomeDone();
        dropOfNone();
        dropTakesWhatIsTold();
        Due.end();
    }

    /** An OPERATOR of each kind, the first a READ. */
    private static int add(OnePassJudge x, int kind) {
        return switch (kind) {
            case 0 -> x.read(2);
            case 1, 2, 3 -> x.each(kind - 1, 0, 0, 0);
            case 4 -> x.spans(0, 1, 0);
            case 5 -> x.join(0, 0, 0);
            case 6 -> x.meet(0, 0);
            case 7 -> x.falls(0, 0);
            default -> x.first(0, 1);
        };
    }

    private static void twelveOperatorsOfEachKind() {
        for (int kind = 0; kind < 9; kind++) {
            OnePassJudge x = new OnePassJudge();
            x.read(0);
            for (int i = 1; i < 12; i++) {
                Due.is("2 OPERATOR " + i + " of kind " + kind, add(x, kind), i);
            }
            Due.is("2 the 13th of kind " + kind, add(x, kind), FULL);
            Due.is("2 count(1)", x.count(1), 12);
            Due.is("2 judge()", x.judge(), 12);
            Due.is("2 the 13th, JUDGED or not", add(x, kind), FULL);
            Due.is("2 what is JUDGED stays behind FULL", x.rows(11), 0);
            Due.is("2 rows(12)", x.rows(12), BAD);
        }
    }

    private static void twelveAgainBehindDropAndClear() {
        OnePassJudge x = new OnePassJudge();
        for (int i = 0; i < 12; i++) {
            x.read(0);
        }
        Due.is("13 drop()", x.drop(), 11);
        Due.is("6 room for one", x.meet(10, 0), 11);
        Due.is("6 and for no other", x.meet(10, 0), FULL);
        Due.is("24 clear()", x.clear(), 12);
        for (int i = 0; i < 12; i++) {
            Due.is("24 room for 12", x.read(2), i);
        }
        Due.is("6 FULL again", x.read(2), FULL);
    }

    private static void noneOfItself() {
        OnePassJudge x = new OnePassJudge();
        for (int n = 0; n < 11; n++) {
            Due.is("7 p is itself", x.each(0, n, 0, 0), BAD);
            Due.is("8 p is itself", x.spans(n, 1, 0), BAD);
            Due.is("9 q is itself", x.join(0, n, 0), BAD);
            Due.is("9 p is itself", x.join(n, 0, 0), BAD);
            Due.is("10 q is itself", x.meet(0, n), BAD);
            Due.is("10 p is itself", x.meet(n, 0), BAD);
            Due.is("11 p is itself", x.falls(n, 0), BAD);
            Due.is("12 p is itself", x.first(n, 0), BAD);
            Due.is("6 READ", x.read(0), n);
        }
        Due.is("10 of the last that was told", x.meet(10, 10), 11);
    }

    private static void readOfNone() {
        OnePassJudge x = Made.with(0, 0, 0, 0, 2, 0, 0, 0);
        x.read(1);
        Due.is("6 judge()", x.judge(), 1);
        Due.rows("6 no rows of that SOURCE", x, 0);
    }

    private static void keepMoreThanZero() {
        OnePassJudge x = Made.with(0, 0, 0, -1, 0, 1, 1, 0, 0, 2, 2, 1);
        x.read(0);
        x.each(1, 0, 0, 0);
        x.each(1, 0, 5, 0);
        x.each(1, 0, 1, 0);
        x.judge();
        Due.rows("7 more than 0", x, 1, 2, 2, 1);
        Due.rows("7 less v is more than 0", x, 2, 0, 0, -1);
        Due.rows("7 0 is not more than 0", x, 3);
        Due.is("7 what is not kept did not FAIL", x.count(2), 0);
    }

    private static void keepByWhatWrapped() {
        OnePassJudge x = Made.withLongs(LEAST, 0, 1 << 30);
        x.each(1, 3, 0, -1);
        x.each(1, 3, 0, 1);
        x.each(1, 3, 1, 2);
        x.each(1, 3, 0, 0);
        x.judge();
        Due.rows("7 the least, less 1, is the most", x, 4, 0, 0, LEAST_LONG, 2, 0, 1L << 62);
        Due.rows("7 the least and 1 is not more than 0", x, 5, 1, 0, 0, 2, 0, 1L << 62);
        Due.rows("7 2 to the 62nd twice is the least", x, 6);
        Due.rows("7 more than 0 is a long's", x, 7, 2, 0, 1L << 62);
    }

    private static void rekeyModuloSix() {
        int[] values = {-1_000_000, -7, -6, -5, -1, 0, 1, 5, 6, 7, 1_000_000};
        int[] keys = {2, 5, 0, 1, 5, 0, 1, 5, 0, 1, 4};
        OnePassJudge x = new OnePassJudge();
        for (int i = 0; i < values.length; i++) {
            x.row(0, i, i % 6, values[i], false);
        }
        x.read(0);
        x.each(2, 0, 0, 0);
        x.judge();
        for (int i = 0; i < values.length; i++) {
            Due.is("7 KEY by " + values[i], x.told(1, i, 1), keys[i]);
            Due.is("7 VALUE stays", x.value(1, i), values[i]);
            Due.is("7 TIME stays", x.told(1, i, 0), i);
        }
    }

    private static void rekeyOfLongs() {
        OnePassJudge x = Made.withLongs(LEAST, 1, -1);
        x.each(2, 3, 0, 0);
        x.each(2, 3, 0, -1);
        x.judge();
        Due.rows("7 KEYS of longs", x, 4, 0, 4, LEAST_LONG, 1, 4, 1L << 32, 2, 2, -1L << 32);
        Due.rows("7 KEY of the most", x, 5, 0, 1, LEAST_LONG, 1, 3, 1L << 32, 2, 1, -1L << 32);
    }

    private static void spansOfOneTime() {
        OnePassJudge x = Made.with(0, 0, 0, 1, 0, 0, 0, 2, 0, 1, 0, 4, 0, 998, 5, 8, 0, 999, 5, 16);
        x.read(0);
        x.spans(0, 1, 0);
        x.judge();
        Due.rows("8 size 1", x, 1, 0, 0, 3, 1, 0, 4, 998, 5, 8, 999, 5, 16);
    }

    private static void spansOfAllTimes() {
        OnePassJudge x = Made.with(0, 0, 0, 1, 0, 999, 0, 2, 0, 999, 5, 4, 0, 500, 5, 8);
        x.read(0);
        x.spans(0, 1000, 0);
        x.spans(0, 999, 0);
        x.judge();
        Due.rows("8 size 1000", x, 1, 999, 0, 3, 999, 5, 12);
        Due.rows("8 size 999", x, 2, 998, 0, 1, 998, 5, 8, 1997, 0, 2, 1997, 5, 4);
    }

    private static void spanBeginsWhereTheLastEnds() {
        OnePassJudge x = Made.with(0, 9, 1, 1, 0, 10, 1, 2, 0, 19, 1, 4, 0, 20, 1, 8, 0, 0, 1, 16, 0, 20, 0, 32);
        x.read(0);
        x.spans(0, 10, 0);
        x.judge();
        Due.rows("8 TIME by size, cut", x, 1, 9, 1, 17, 19, 1, 6, 29, 0, 32, 29, 1, 8);
    }

    private static void spansBehindTheLastTime() {
        OnePassJudge x = Made.with(0, 999, 3, 7);
        x.read(0);
        x.spans(0, 500, 4);
        x.spans(0, 501, 4);
        x.spans(0, 998, 4);
        x.judge();
        Due.rows("8 size 500", x, 1, 999, 3, 7);
        Due.rows("8 size 501", x, 2, 1001, 3, 7);
        Due.rows("8 size 998", x, 3, 1995, 3, 7);
    }

    /** The sizes are chosen so that each level goes far beyond the one before. */
    private static void spansOfElevenLevels() {
        OnePassJudge x = Made.with(0, 999, 0, 1);
        x.read(0);
        int time = 999;
        for (int op = 0; op < 11; op++) {
            int size = 1000;
            for (int s = 1; s <= 1000; s++) {
                if ((time / s + 1) * s > (time / size + 1) * size) {
                    size = s;
                }
            }
            Due.is("8 spans", x.spans(op, size, 1), op + 1);
            time = (time / size + 1) * size - 1;
        }
        Due.is("8 judge()", x.judge(), 12);
        Due.yes("8 the TIME can be TOLD: " + time, time > 5000 && time <= 20_000);
        Due.rows("8 spans of spans", x, 11, time, 0, 1);
        x.tell(11, time, 0, 1);
        Due.is("21 compare", x.compare(11, 0), 0);
    }

    private static void spanSumsWrap() {
        OnePassJudge x = Made.withLongs(LEAST, LEAST, LEAST);
        x.each(0, 3, 0, -1);
        x.spans(3, 2, 0);
        x.spans(4, 2, 0);
        x.spans(4, 10, 0);
        x.judge();
        Due.rows("8 the least twice", x, 5, 1, 0, 0, 3, 0, LEAST_LONG);
        Due.rows("8 the most twice", x, 6, 1, 0, -2, 3, 0, MOST_LONG);
        Due.rows("8 the most three times", x, 7, 9, 0, MOST_LONG - 2);
    }

    private static void spanLeastAndGreatestOfLongs() {
        OnePassJudge x = Made.withLongs(LEAST, 0);
        x.each(0, 3, 0, -1);
        x.meet(3, 4);
        x.spans(5, 1000, 2);
        x.spans(5, 1000, 3);
        x.spans(5, 1, 2);
        x.spans(5, 1, 3);
        x.spans(5, 1, 4);
        x.judge();
        Due.rows("10 both", x, 5, 0, 0, LEAST_LONG, 0, 0, MOST_LONG, 1, 0, 0, 1, 0, -1);
        Due.rows("8 the least", x, 6, 999, 0, LEAST_LONG);
        Due.rows("8 the greatest", x, 7, 999, 0, MOST_LONG);
        Due.rows("8 the least", x, 8, 0, 0, LEAST_LONG, 1, 0, -1);
        Due.rows("8 the greatest", x, 9, 0, 0, MOST_LONG, 1, 0, 0);
        Due.rows("8 the last", x, 10, 0, 0, MOST_LONG, 1, 0, -1);
    }

    private static void spansOfNone() {
        OnePassJudge x = new OnePassJudge();
        x.read(0);
        for (int how = 0; how < 5; how++) {
            x.spans(0, 1, how);
        }
        x.join(0, 0, 1000);
        x.meet(0, 0);
        x.falls(0, 1000);
        x.first(0, 200);
        Due.is("2 judge()", x.judge(), 10);
        for (int op = 0; op < 10; op++) {
            Due.rows("2 nothing of nothing", x, op);
        }
    }

    private static void joinJustSoFarApart() {
        OnePassJudge x = Made.with(0, 100, 2, 1, 1, 96, 2, 2, 1, 97, 2, 3, 1, 103, 2, 4, 1, 104, 2, 5, 1, 100, 3, 6);
        x.read(0);
        x.read(1);
        x.join(0, 1, 3);
        x.join(1, 0, 3);
        x.join(0, 1, 4);
        x.join(0, 1, 0);
        x.judge();
        Due.rows("9 w 3", x, 2, 100, 2, 1003, 103, 2, 1004);
        Due.rows("9 w 3 the other way", x, 3, 100, 2, 3001, 103, 2, 4001);
        Due.rows("9 w 4", x, 4, 100, 2, 1002, 100, 2, 1003, 103, 2, 1004, 104, 2, 1005);
        Due.rows("9 w 0, other KEYS", x, 5);
    }

    private static void joinAThousandApart() {
        OnePassJudge x = Made.with(0, 999, 0, 1, 0, 0, 0, 2, 1, 0, 0, 3);
        x.read(0);
        x.read(1);
        x.spans(0, 667, 4);
        x.join(2, 1, 1000);
        x.join(0, 1, 999);
        x.join(0, 1, 998);
        x.spans(0, 501, 4);
        x.spans(1, 2, 4);
        x.join(6, 7, 1000);
        x.join(7, 6, 999);
        x.judge();
        Due.rows("9 1333 apart", x, 3, 666, 0, 2003);
        Due.rows("9 999 apart", x, 4, 0, 0, 2003, 999, 0, 1003);
        Due.rows("9 w 998", x, 5, 0, 0, 2003);
        Due.rows("9 1000 apart", x, 8, 500, 0, 2003, 1001, 0, 1003);
        Due.rows("9 1000 apart, w 999", x, 9, 500, 0, 3002);
    }

    private static void joinWraps() {
        OnePassJudge x = Made.withLongs(LEAST, 1 << 23);
        x.each(0, 3, 0, -1);
        x.join(3, 4, 0);
        x.join(4, 4, 0);
        x.join(4, 3, 0);
        x.judge();
        long up = 1L << 55;
        Due.rows("9 1000 times the least, and the most", x, 5, 0, 0, MOST_LONG, 1, 0, 1001 * up - 1);
        Due.rows("9 1000 times the most, and the most", x, 6, 0, 0, MOST_LONG - 1000, 1, 0, 1001 * up - 1001);
        Due.rows("9 the sum wraps too", x, 7, 0, 0, LEAST_LONG - 1000, 1, 0, 1001 * up - 1000);
    }

    private static void joinOf200() {
        OnePassJudge x = new OnePassJudge();
        Made.addAlike(x, 40, 0, 7, 0);
        Made.addAlike(x, 5, 1, 7, 0);
        Due.is("row", x.row(1, 7, 1, 9, false), 45);
        Due.is("row", x.row(0, 7, 1, 9, true), 46);
        x.read(0);
        x.read(1);
        x.join(0, 1, 0);
        x.join(1, 0, 0);
        Due.is("9 judge()", x.judge(), 4);
        Due.is("9 200 rows", x.rows(2), 200);
        Due.is("9 the last", x.value(2, 199), 39_004);
        Due.is("9 by a's place, then b's", x.value(2, 5), 1000);
        Due.is("9 200 rows the other way", x.value(3, 40), 1000);
        x.late(46, false);
        Due.is("9 judge()", x.judge(), 2);
        Due.is("9 201 rows", x.rows(2), UNDONE);
        Due.is("9 201 rows", x.rows(3), UNDONE);
    }

    private static void meetOf200() {
        OnePassJudge x = new OnePassJudge();
        Made.addAlike(x, 50, 0, 7, 0);
        Due.is("row", x.row(1, 0, 1, -1, true), 50);
        Due.is("row", x.row(1, 999, 1, -1, true), 51);
        x.read(0);
        x.meet(0, 0);
        x.meet(1, 1);
        x.read(1);
        x.meet(2, 3);
        x.meet(3, 2);
        Due.is("10 judge()", x.judge(), 6);
        Due.is("10 200 rows and none", x.rows(4), 200);
        Due.is("10 none and 200 rows", x.rows(5), 200);
        for (int i = 50; i < 52; i++) {
            x.late(i, false);
            Due.is("10 judge()", x.judge(), 4);
            Due.is("10 200 rows and one", x.rows(4), UNDONE);
            Due.is("10 one and 200 rows", x.rows(5), UNDONE);
            x.late(i, true);
        }
        x.late(0, true);
        x.late(50, false);
        x.late(51, false);
        Due.is("10 judge()", x.judge(), 6);
        Due.is("10 196 rows and 2", x.rows(4), 198);
        Due.is("10 the first is q's", x.value(4, 0), -1);
        Due.is("10 the last is q's", x.told(4, 197, 0), 999);
    }

    /** 200 rows of q and one of p lie before the last of p. */
    private static void meetIsFullBeforeTheLastOfP() {
        OnePassJudge x = new OnePassJudge();
        Made.addAlike(x, 50, 0, 7, 0);
        x.row(1, 0, 1, -1, false);
        x.row(1, 999, 1, -1, false);
        x.read(0);
        x.meet(0, 0);
        x.meet(1, 1);
        x.read(1);
        x.meet(3, 2);
        Due.is("10 judge()", x.judge(), 4);
        Due.is("10 202 rows", x.rows(4), UNDONE);
        x.late(0, true);
        Due.is("10 judge()", x.judge(), 5);
        Due.is("10 198 rows", x.rows(4), 198);
    }

    private static void fallsNotOfTheSameValue() {
        OnePassJudge x = Made.with(0, 1, 0, 5, 0, 2, 0, 5, 0, 3, 0, 4, 0, 4, 0, 5);
        x.read(0);
        x.falls(0, 1000);
        x.judge();
        Due.rows("11 b's VALUE is less", x, 1, 3, 0, 1);
    }

    private static void fallsJustSoFarAbove() {
        OnePassJudge x = Made.with(0, 10, 0, 9, 0, 15, 0, 8, 0, 21, 0, 7, 0, 21, 0, 6, 0, 0, 1, 2, 0, 999, 1, 1);
        x.read(0);
        x.falls(0, 5);
        x.falls(0, 4);
        x.falls(0, 6);
        x.falls(0, 0);
        x.falls(0, 999);
        x.falls(0, 998);
        x.judge();
        Due.rows("11 w 5", x, 1, 15, 0, 1, 21, 0, 1);
        Due.rows("11 w 4", x, 2, 21, 0, 1);
        Due.rows("11 w 6", x, 3, 15, 0, 1, 21, 0, 1, 21, 0, 1);
        Due.rows("11 w 0", x, 4, 21, 0, 1);
        Due.rows("11 w 999", x, 5, 15, 0, 1, 21, 0, 1, 21, 0, 1, 999, 1, 1);
        Due.rows("11 w 998", x, 6, 15, 0, 1, 21, 0, 1, 21, 0, 1);
    }

    private static void fallsToTheNextAlone() {
        OnePassJudge x = Made.with(0, 1, 0, 5, 0, 2, 0, 9, 0, 3, 0, 4, 0, 3, 1, 1, 0, 500, 2, 7, 0, 999, 2, 6);
        x.read(0);
        x.falls(0, 100);
        x.spans(0, 334, 4);
        x.falls(2, 1000);
        x.judge();
        Due.rows("11 not to the one behind the next", x, 1, 3, 0, 5);
        Due.rows("11 behind the last TIME", x, 3, 1001, 2, 1);
    }

    private static void fallsOfLongs() {
        OnePassJudge x = Made.withLongs(LEAST, 0);
        x.each(0, 3, 0, -1);
        x.meet(4, 3);
        x.falls(5, 0);
        x.meet(3, 4);
        x.falls(7, 0);
        x.falls(7, 1000);
        x.judge();
        Due.rows("10 the most, the least, -1, 0", x, 5, 0, 0, MOST_LONG, 0, 0, LEAST_LONG, 1, 0, -1, 1, 0, 0);
        Due.rows("11 the most less the least wraps", x, 6, 0, 0, -1);
        Due.rows("11 the least does not fall to the most", x, 8, 1, 0, 1);
        Due.rows("11 the most falls to 0", x, 9, 1, 0, MOST_LONG, 1, 0, 1);
    }

    private static void firstOfNoneAndOf200() {
        OnePassJudge x = new OnePassJudge();
        Made.addAlike(x, 50, 0, 7, 5);
        x.read(0);
        x.meet(0, 0);
        x.meet(1, 1);
        x.first(2, 0);
        x.first(2, 1);
        x.first(2, 199);
        x.first(2, 200);
        Due.is("12 judge()", x.judge(), 7);
        Due.rows("12 n 0", x, 3);
        Due.rows("12 n 1", x, 4, 7, 5, 0);
        Due.is("12 n 199", x.rows(5), 199);
        Due.is("12 n 200", x.rows(6), 200);
        Due.is("12 the last", x.value(6, 199), 49);
    }

    private static void firstOfEachKey() {
        OnePassJudge x = new OnePassJudge();
        for (int i = 0; i < 18; i++) {
            x.row(0, i, i % 6, i, false);
        }
        x.read(0);
        x.first(0, 1);
        x.first(1, 1);
        for (int round = 0; round < 2; round++) {
            Due.is("12 judge()", x.judge(), 3);
            Due.rows("12 one of each KEY", x, 1, 0, 0, 0, 1, 1, 1, 2, 2, 2, 3, 3, 3, 4, 4, 4, 5, 5, 5);
            Due.is("12 each judge() begins anew", x.rows(2), 6);
        }
    }

    /** READ 0 of 15 rows; READ 1 of none; JOIN 2 of 0 with itself, which would give 225 rows. */
    private static OnePassJudge withUndone() {
        OnePassJudge x = new OnePassJudge();
        Made.addAlike(x, 15, 0, 7, 0);
        x.read(0);
        x.read(1);
        x.join(0, 0, 0);
        return x;
    }

    private static void undoneOnesMakeUndone() {
        OnePassJudge x = withUndone();
        x.each(0, 2, 2, 0);
        x.each(1, 2, 4, 0);
        x.each(2, 2, 3, 0);
        x.spans(2, 1000, 1);
        x.join(2, 1, 0);
        x.join(1, 2, 0);
        x.meet(2, 1);
        x.meet(1, 2);
        x.falls(2, 0);
        Due.is("2 judge()", x.judge(), 2);
        for (int op = 2; op < 12; op++) {
            Due.is("2 rows(" + op + ")", x.rows(op), UNDONE);
            Due.is("2 it has none", x.value(op, 0), 0);
            Due.is("2 fails by ZERO", x.fails(op, 0), 0);
            Due.is("2 fails by INDEX", x.fails(op, 1), 0);
        }
        Due.is("2 count(2)", x.count(2), 0);
        OnePassJudge y = withUndone();
        y.first(2, 0);
        y.first(3, 0);
        y.meet(4, 0);
        Due.is("2 judge()", y.judge(), 2);
        Due.is("12 n 0 of one that is UNDONE", y.rows(3), UNDONE);
        Due.is("12 and of that", y.rows(4), UNDONE);
        Due.is("10 and of that", y.rows(5), UNDONE);
    }

    private static void undoneOnesBecomeDone() {
        OnePassJudge x = withUndone();
        x.spans(2, 1, 1);
        Due.is("2 judge()", x.judge(), 2);
        x.late(0, true);
        Due.is("2 what is JUDGED stays", x.rows(2), UNDONE);
        Due.is("2 judge()", x.judge(), 4);
        Due.is("2 196 rows", x.rows(2), 196);
        Due.rows("8 of them", x, 3, 7, 0, 196);
        x.late(0, false);
        Due.is("2 judge()", x.judge(), 2);
        Due.is("2 225 rows", x.rows(2), UNDONE);
        Due.is("2 none is left from before", x.value(2, 0), 0);
        Due.is("2 none is left from before", x.value(3, 0), 0);
    }

    private static void dropOfNone() {
        OnePassJudge x = new OnePassJudge();
        Due.is("13 drop() of a new one", x.drop(), STATE);
        x.read(0);
        Due.is("13 drop() of the only one", x.drop(), 0);
        Due.is("13 drop() of none", x.drop(), STATE);
        Due.is("13 count(1)", x.count(1), 0);
        x.read(0);
        x.clear();
        Due.is("13 drop() behind clear()", x.drop(), STATE);
    }

    private static void dropTakesWhatIsTold() {
        OnePassJudge x = new OnePassJudge();
        for (int i = 0; i < 12; i++) {
            x.read(0);
        }
        for (int i = 1; i <= 40; i++) {
            x.tell(11, 0, 0, 0);
            x.tell(10, 0, 0, 0);
        }
        Due.is("13 drop()", x.drop(), 11);
        Due.is("19 of the dropped one", x.tell(11, 0, 0, 0), BAD);
        Due.is("13 read", x.read(0), 11);
        Due.is("19 room again", x.tell(11, 0, 0, 0), 1);
        Due.is("19 of the one before it is TOLD what was", x.tell(10, 0, 0, 0), FULL);
    }
}

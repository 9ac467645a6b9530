/** Promises 6 to 13: read, each, spans, join, meet, falls, first, drop. */
public final class OperatorsTest {
    private static final int BAD = OnePassJudge.BAD;
    private static final int FULL = OnePassJudge.FULL;
    private static final int STATE = OnePassJudge.STATE;
    private static final int UNDONE = OnePassJudge.UNDONE;
    private static final int LEAST = Integer.MIN_VALUE;
    private static final int MOST = Integer.MAX_VALUE;

    public static void main(String[] args) {
        promise6Read();
        promises6To12Full();
        promises6To12RefusalsChangeNothing();
        promise7EachRefusals();
        promise7Functions();
        promise7FunctionsWrap();
        promise7KeepAndRekey();
        promise7FailuresAreLeftOut();
        promise8SpansRefusals();
        promise8Spans();
        promise8SpansOfSpans();
        promise9JoinRefusals();
        promise9Join();
        promise9JoinOfTheLeast();
        promise9JoinWithItself();
        promise10Meet();
        promise10UndoneAbove200();
        promise11FallsRefusals();
        promise11Falls();
        promise12First();
        promise13Drop();
        Due.end();
    }

    private static void promise6Read() {
        OnePassJudge x = Made.with(0, 9, 1, 1, 1, 5, 2, 2, 0, 3, 3, 3, 0, 9, 0, 4, 2, 0, 5, 5, 0, 3, 4, 6);
        Due.is("6 read(-1)", x.read(-1), BAD);
        Due.is("6 read(3)", x.read(3), BAD);
        Due.is("6 read(least)", x.read(LEAST), BAD);
        Due.is("6 read(most)", x.read(MOST), BAD);
        Due.is("6 read(0)", x.read(0), 0);
        Due.is("6 read(1)", x.read(1), 1);
        Due.is("6 read(2)", x.read(2), 2);
        Due.is("6 read(0) again", x.read(0), 3);
        Due.is("6 judge()", x.judge(), 4);
        Due.rows("6 by TIME, then NUMBER", x, 0, 3, 3, 3, 3, 4, 6, 9, 1, 1, 9, 0, 4);
        Due.rows("6", x, 1, 5, 2, 2);
        Due.rows("6", x, 2, 0, 5, 5);
        Due.rows("6", x, 3, 3, 3, 3, 3, 4, 6, 9, 1, 1, 9, 0, 4);
        x.late(2, true);
        x.row(0, 0, 0, 7, false);
        x.judge();
        Due.rows("6 without the LATE one", x, 0, 0, 0, 7, 3, 4, 6, 9, 1, 1, 9, 0, 4);
    }

    private static void promises6To12Full() {
        OnePassJudge x = new OnePassJudge();
        for (int i = 0; i < 12; i++) {
            Due.is("6 read", x.read(i % 3), i);
        }
        Due.is("6 FULL", x.read(0), FULL);
        Due.is("7 FULL", x.each(0, 0, 0, 0), FULL);
        Due.is("8 FULL", x.spans(0, 1, 0), FULL);
        Due.is("9 FULL", x.join(0, 0, 0), FULL);
        Due.is("10 FULL", x.meet(0, 0), FULL);
        Due.is("11 FULL", x.falls(0, 0), FULL);
        Due.is("12 FULL", x.first(0, 0), FULL);
        Due.is("6 BAD before FULL", x.read(3), BAD);
        Due.is("7 BAD before FULL", x.each(0, 12, 0, 0), BAD);
        Due.is("8 BAD before FULL", x.spans(12, 1, 0), BAD);
        Due.is("9 BAD before FULL", x.join(0, 12, 0), BAD);
        Due.is("10 BAD before FULL", x.meet(12, 0), BAD);
        Due.is("11 BAD before FULL", x.falls(12, 0), BAD);
        Due.is("12 BAD before FULL", x.first(12, 0), BAD);
        Due.is("6 count(1)", x.count(1), 12);
        Due.is("6 judge()", x.judge(), 12);
        Due.is("6 drop()", x.drop(), 11);
        Due.is("12 first(10, 200)", x.first(10, 200), 11);
    }

    private static void promises6To12RefusalsChangeNothing() {
        OnePassJudge x = Made.with(0, 1, 1, 1);
        x.read(0);
        x.judge();
        x.compare(0, 0);
        x.read(3);
        x.each(0, 0, 7, 0);
        x.spans(0, 0, 0);
        x.join(0, 0, -1);
        x.meet(0, 1);
        x.falls(0, 1001);
        x.first(0, -1);
        Due.is("6 rows(0)", x.rows(0), 1);
        Due.is("6 where(1)", x.where(1), 1);
        Due.is("6 count(1)", x.count(1), 1);
        Due.is("6 read(1)", x.read(1), 1);
        Due.is("6 nothing is JUDGED", x.rows(0), STATE);
    }

    private static void promise7EachRefusals() {
        OnePassJudge x = new OnePassJudge();
        Due.is("7 each of none", x.each(0, 0, 0, 0), BAD);
        x.read(0);
        int[] badWhich = {-1, 3, LEAST, MOST};
        int[] badP = {-1, 1, LEAST, MOST};
        int[] badF = {-1, 7, LEAST, MOST};
        for (int i = 0; i < 4; i++) {
            Due.is("7 each which " + badWhich[i], x.each(badWhich[i], 0, 0, 0), BAD);
            Due.is("7 each p " + badP[i], x.each(0, badP[i], 0, 0), BAD);
            Due.is("7 each f " + badF[i], x.each(0, 0, badF[i], 0), BAD);
        }
        Due.is("7 each any c", x.each(0, 0, 0, LEAST), 1);
        Due.is("7 each any c", x.each(1, 1, 6, MOST), 2);
        Due.is("7 each any c", x.each(2, 2, 2, 0), 3);
    }

    private static void promise7Functions() {
        OnePassJudge x = Made.with(0, 1, 1, 300, 0, 2, 2, -7, 0, 3, 3, 7, 0, 4, 4, 0);
        x.item(7, -77);
        x.item(0, 10);
        x.read(0);
        x.each(0, 0, 0, -5);
        x.each(0, 0, 1, -2);
        x.each(0, 0, 2, 2);
        x.each(0, 0, 3, 4);
        x.each(0, 0, 4, 9);
        x.each(0, 0, 5, 10);
        x.each(0, 0, 6, 9);
        x.each(0, 0, 2, -2);
        x.each(0, 0, 3, -4);
        Due.is("7 judge()", x.judge(), 10);
        Due.rows("7 v + c", x, 1, 1, 1, 295, 2, 2, -12, 3, 3, 2, 4, 4, -5);
        Due.rows("7 v c", x, 2, 1, 1, -600, 2, 2, 14, 3, 3, -14, 4, 4, 0);
        Due.rows("7 v / c", x, 3, 1, 1, 150, 2, 2, -3, 3, 3, 3, 4, 4, 0);
        Due.rows("7 what is left", x, 4, 1, 1, 0, 2, 2, -3, 3, 3, 3, 4, 4, 0);
        Due.rows("7 ITEM v", x, 5, 3, 3, -77, 4, 4, 10);
        Due.rows("7 c less v", x, 6, 1, 1, -290, 2, 2, 17, 3, 3, 3, 4, 4, 10);
        Due.rows("7 8 bits", x, 7, 1, 1, 44, 2, 2, -7, 3, 3, 7, 4, 4, 0);
        Due.rows("7 v / -2", x, 8, 1, 1, -150, 2, 2, 3, 3, 3, -3, 4, 4, 0);
        Due.rows("7 left of / -4", x, 9, 1, 1, 0, 2, 2, -3, 3, 3, 3, 4, 4, 0);
    }

    private static void promise7FunctionsWrap() {
        OnePassJudge x = Made.with(0, 1, 1, -2);
        x.read(0);
        x.each(0, 0, 1, 1 << 30);
        x.each(0, 1, 1, 1 << 30);
        x.each(0, 2, 1, 4);
        x.each(0, 3, 2, -1);
        x.each(0, 3, 3, -1);
        x.each(0, 3, 0, -1);
        x.each(0, 3, 5, 0);
        x.each(0, 3, 1, 2);
        x.each(2, 3, 0, 0);
        x.each(0, 3, 4, 0);
        x.each(0, 3, 5, LEAST);
        x.judge();
        Due.rows("7 a long", x, 2, 1, 1, -(1L << 61));
        Due.rows("7 the least long", x, 3, 1, 1, Long.MIN_VALUE);
        Due.rows("7 the least long by -1", x, 4, 1, 1, Long.MIN_VALUE);
        Due.rows("7 what is left of that", x, 5, 1, 1, 0);
        Due.rows("7 wraps down", x, 6, 1, 1, Long.MAX_VALUE);
        Due.rows("7 0 less the least", x, 7, 1, 1, Long.MIN_VALUE);
        Due.rows("7 twice the least", x, 8, 1, 1, 0);
        Due.rows("7 KEY of the least", x, 9, 1, 4, Long.MIN_VALUE);
        Due.rows("7 no ITEM", x, 10);
        Due.is("7 fails(10, 1)", x.fails(10, 1), 1);
        Due.rows("7 c less v", x, 11, 1, 1, Long.MIN_VALUE + LEAST);
    }

    private static void promise7KeepAndRekey() {
        OnePassJudge x = Made.with(0, 1, 1, 300, 0, 2, 2, -7, 0, 3, 3, 7, 0, 4, 4, 0, 0, 5, 5, -6);
        x.read(0);
        x.each(1, 0, 0, 0);
        x.each(1, 0, 5, 0);
        x.each(1, 0, 0, 1);
        x.each(2, 0, 0, 0);
        x.each(2, 0, 1, -1);
        x.each(1, 0, 3, 300);
        x.judge();
        Due.rows("7 KEEP v", x, 1, 1, 1, 300, 3, 3, 7);
        Due.rows("7 KEEP -v", x, 2, 2, 2, -7, 5, 5, -6);
        Due.rows("7 KEEP v + 1", x, 3, 1, 1, 300, 3, 3, 7, 4, 4, 0);
        Due.rows("7 REKEY v", x, 4, 1, 0, 300, 2, 5, -7, 3, 1, 7, 4, 0, 0, 5, 0, -6);
        Due.rows("7 REKEY -v", x, 5, 1, 0, 300, 2, 1, -7, 3, 5, 7, 4, 0, 0, 5, 0, -6);
        Due.rows("7 KEEP v % 300", x, 6, 3, 3, 7);
    }

    private static void promise7FailuresAreLeftOut() {
        OnePassJudge x = Made.with(0, 1, 1, 8, 0, 2, 2, -1, 0, 3, 3, 7, 0, 4, 4, 0);
        x.item(7, 5);
        x.item(0, -1);
        x.read(0);
        x.each(0, 0, 4, 0);
        x.each(1, 0, 4, 0);
        x.each(2, 0, 4, 0);
        x.each(0, 0, 2, 0);
        x.each(1, 0, 3, 0);
        x.each(2, 0, 2, 0);
        x.each(0, 4, 2, 0);
        Due.is("7 judge()", x.judge(), 8);
        Due.rows("7 MAP", x, 1, 3, 3, 5, 4, 4, -1);
        Due.rows("7 KEEP", x, 2, 3, 3, 7);
        Due.rows("7 REKEY", x, 3, 3, 5, 7, 4, 5, 0);
        for (int op = 1; op <= 3; op++) {
            Due.is("7 fails by INDEX", x.fails(op, 1), 2);
            Due.is("7 fails by ZERO", x.fails(op, 0), 0);
        }
        for (int op = 4; op <= 6; op++) {
            Due.rows("7 by ZERO", x, op);
            Due.is("7 fails by INDEX", x.fails(op, 1), 0);
            Due.is("7 fails by ZERO", x.fails(op, 0), 4);
        }
        Due.is("7 no rows, no failures", x.fails(7, 0), 0);
        Due.is("7 count(2)", x.count(2), 18);
    }

    private static void promise8SpansRefusals() {
        OnePassJudge x = new OnePassJudge();
        Due.is("8 spans of none", x.spans(0, 1, 0), BAD);
        x.read(0);
        int[] badP = {-1, 1, LEAST, MOST};
        int[] badSize = {0, 1001, LEAST, MOST};
        int[] badHow = {-1, 5, LEAST, MOST};
        for (int i = 0; i < 4; i++) {
            Due.is("8 spans p " + badP[i], x.spans(badP[i], 1, 0), BAD);
            Due.is("8 spans size " + badSize[i], x.spans(0, badSize[i], 0), BAD);
            Due.is("8 spans how " + badHow[i], x.spans(0, 1, badHow[i]), BAD);
        }
        Due.is("8 spans least", x.spans(0, 1, 0), 1);
        Due.is("8 spans most", x.spans(1, 1000, 4), 2);
    }

    private static void promise8Spans() {
        OnePassJudge x = Made.with(0, 19, 3, 4, 0, 10, 3, 9, 0, 10, 0, -5, 0, 15, 3, -6, 0, 9, 3, 1, 0, 40, 5, 2,
                0, 0, 3, 8, 0, 15, 3, 5);
        x.read(0);
        for (int how = 0; how < 5; how++) {
            x.spans(0, 10, how);
        }
        x.spans(0, 1, 0);
        x.spans(0, 1000, 4);
        x.spans(0, 7, 1);
        Due.is("8 judge()", x.judge(), 9);
        Due.rows("8 sum", x, 1, 9, 3, 9, 19, 0, -5, 19, 3, 12, 49, 5, 2);
        Due.rows("8 how many", x, 2, 9, 3, 2, 19, 0, 1, 19, 3, 4, 49, 5, 1);
        Due.rows("8 least", x, 3, 9, 3, 1, 19, 0, -5, 19, 3, -6, 49, 5, 2);
        Due.rows("8 greatest", x, 4, 9, 3, 8, 19, 0, -5, 19, 3, 9, 49, 5, 2);
        Due.rows("8 last", x, 5, 9, 3, 1, 19, 0, -5, 19, 3, 4, 49, 5, 2);
        Due.rows("8 size 1", x, 6, 0, 3, 8, 9, 3, 1, 10, 0, -5, 10, 3, 9, 15, 3, -1, 19, 3, 4, 40, 5, 2);
        Due.rows("8 size 1000", x, 7, 999, 0, -5, 999, 3, 4, 999, 5, 2);
        Due.rows("8 size 7", x, 8, 6, 3, 1, 13, 0, 1, 13, 3, 2, 20, 3, 3, 41, 5, 1);
    }

    private static void promise8SpansOfSpans() {
        OnePassJudge x = Made.with(0, 999, 0, 1_000_000, 0, 998, 0, 1_000_000, 0, 1, 2, 3);
        x.read(0);
        x.spans(0, 998, 0);
        x.spans(1, 1000, 1);
        x.each(0, 0, 1, MOST);
        x.each(0, 3, 1, 4000);
        x.spans(4, 600, 0);
        x.spans(4, 600, 2);
        x.spans(4, 600, 3);
        Due.is("8 judge()", x.judge(), 8);
        long big = 1_000_000L * MOST * 4000;
        Due.rows("8 a span beyond 999", x, 1, 997, 2, 3, 1995, 0, 2_000_000);
        Due.rows("8 a span of spans", x, 2, 999, 2, 1, 1999, 0, 1);
        Due.rows("8 the sum wraps", x, 5, 599, 2, 3L * MOST * 4000, 1199, 0, big + big);
        Due.rows("8 least of longs", x, 6, 599, 2, 3L * MOST * 4000, 1199, 0, big);
        Due.rows("8 greatest of longs", x, 7, 599, 2, 3L * MOST * 4000, 1199, 0, big);
    }

    private static void promise9JoinRefusals() {
        OnePassJudge x = new OnePassJudge();
        Due.is("9 join of none", x.join(0, 0, 0), BAD);
        x.read(0);
        int[] bad = {-1, 1, LEAST, MOST};
        int[] badW = {-1, 1001, LEAST, MOST};
        for (int i = 0; i < 4; i++) {
            Due.is("9 join p " + bad[i], x.join(bad[i], 0, 0), BAD);
            Due.is("9 join q " + bad[i], x.join(0, bad[i], 0), BAD);
            Due.is("9 join w " + badW[i], x.join(0, 0, badW[i]), BAD);
        }
        Due.is("9 join least", x.join(0, 0, 0), 1);
        Due.is("9 join most", x.join(0, 1, 1000), 2);
    }

    private static void promise9Join() {
        OnePassJudge x = Made.with(0, 10, 1, 1, 0, 11, 1, 2, 0, 11, 2, 3, 0, 20, 1, 4,
                1, 12, 1, 5, 1, 8, 1, 6, 1, 12, 1, 7, 1, 14, 2, 8, 1, 23, 1, -9, 1, 11, 3, 10);
        x.read(0);
        x.read(1);
        x.join(0, 1, 2);
        x.join(0, 1, 3);
        x.join(1, 0, 2);
        x.join(0, 1, 0);
        x.join(0, 1, 1000);
        Due.is("9 judge()", x.judge(), 7);
        Due.rows("9 by TIME, a's place, b's place", x, 2,
                10, 1, 1006, 12, 1, 1005, 12, 1, 1007, 12, 1, 2005, 12, 1, 2007);
        Due.rows("9 w 3", x, 3, 10, 1, 1006, 11, 1, 2006, 12, 1, 1005, 12, 1, 1007, 12, 1, 2005, 12, 1, 2007,
                14, 2, 3008, 23, 1, 3991);
        Due.rows("9 the other way", x, 4,
                10, 1, 6001, 12, 1, 5001, 12, 1, 5002, 12, 1, 7001, 12, 1, 7002);
        Due.rows("9 w 0", x, 5);
        Due.is("9 w 1000", x.rows(6), 13);
    }

    private static void promise9JoinOfTheLeast() {
        OnePassJudge x = Made.with(0, 0, 0, 1, 0, 3, 0, 2, 1, 0, 0, 3, 1, 1000 - 1, 0, 4);
        x.read(0);
        x.read(1);
        x.read(2);
        x.join(0, 1, 5);
        x.join(0, 2, 5);
        x.join(2, 0, 5);
        x.join(0, 1, 999);
        Due.is("9 judge()", x.judge(), 7);
        Due.rows("9 TIME 0, KEY 0", x, 3, 0, 0, 1003, 3, 0, 2003);
        Due.rows("9 no rows of q", x, 4);
        Due.rows("9 no rows of p", x, 5);
        Due.rows("9 just w apart", x, 6, 0, 0, 1003, 3, 0, 2003, 999, 0, 1004, 999, 0, 2004);
    }

    private static void promise9JoinWithItself() {
        OnePassJudge x = Made.with(0, 5, 1, 7, 0, 5, 2, 8, 0, 6, 1, 9, 0, 5, 1, -1);
        x.read(0);
        x.join(0, 0, 0);
        x.join(0, 0, 1);
        x.each(0, 0, 1, MOST);
        x.each(0, 3, 1, MOST);
        x.join(4, 4, 0);
        Due.is("9 judge()", x.judge(), 6);
        Due.rows("9 with itself", x, 1, 5, 1, 7007, 5, 1, 6999, 5, 2, 8008, 5, 1, -993, 5, 1, -1001, 6, 1, 9009);
        Due.rows("9 with itself, w 1", x, 2, 5, 1, 7007, 5, 1, 6999, 5, 2, 8008, 5, 1, -993, 5, 1, -1001,
                6, 1, 7009, 6, 1, -991, 6, 1, 9007, 6, 1, 8999, 6, 1, 9009);
        long seven = 7L * MOST * MOST;
        Due.is("9 wraps", x.value(5, 0), seven * 1000 + seven);
    }

    private static void promise10Meet() {
        OnePassJudge x = Made.with(0, 5, 1, 1, 0, 5, 1, 2, 0, 9, 2, 3, 1, 5, 1, 4, 1, 0, 0, 5, 1, 9, 5, 6, 1, 12, 5, 7);
        Due.is("10 meet of none", x.meet(0, 0), BAD);
        x.read(0);
        int[] bad = {-1, 1, LEAST, MOST};
        for (int b : bad) {
            Due.is("10 meet p " + b, x.meet(b, 0), BAD);
            Due.is("10 meet q " + b, x.meet(0, b), BAD);
        }
        x.read(1);
        x.read(2);
        Due.is("10 meet(0, 1)", x.meet(0, 1), 3);
        Due.is("10 meet(1, 0)", x.meet(1, 0), 4);
        Due.is("10 meet(0, 0)", x.meet(0, 0), 5);
        Due.is("10 meet(2, 0)", x.meet(2, 0), 6);
        Due.is("10 meet(0, 2)", x.meet(0, 2), 7);
        Due.is("10 judge()", x.judge(), 8);
        Due.rows("10", x, 3, 0, 0, 5, 5, 1, 1, 5, 1, 2, 5, 1, 4, 9, 2, 3, 9, 5, 6, 12, 5, 7);
        Due.rows("10", x, 4, 0, 0, 5, 5, 1, 4, 5, 1, 1, 5, 1, 2, 9, 5, 6, 9, 2, 3, 12, 5, 7);
        Due.rows("10", x, 5, 5, 1, 1, 5, 1, 2, 5, 1, 1, 5, 1, 2, 9, 2, 3, 9, 2, 3);
        Due.rows("10", x, 6, 5, 1, 1, 5, 1, 2, 9, 2, 3);
        Due.rows("10", x, 7, 5, 1, 1, 5, 1, 2, 9, 2, 3);
    }

    private static void promise10UndoneAbove200() {
        OnePassJudge x = new OnePassJudge();
        for (int i = 0; i < 25; i++) {
            x.row(0, i, i % 6, i, false);
        }
        x.row(1, 500, 0, 500, false);
        x.read(0);
        x.read(1);
        x.meet(0, 0);
        x.meet(2, 2);
        x.meet(3, 3);
        x.meet(4, 1);
        x.meet(1, 4);
        x.each(0, 5, 2, 0);
        x.first(4, 200);
        x.join(5, 0, 0);
        x.join(0, 5, 0);
        Due.is("10 judge()", x.judge(), 6);
        Due.is("10 200 rows are none too many", x.rows(4), 200);
        Due.is("10 201 are: of q", x.rows(5), UNDONE);
        Due.is("10 201 are: of p", x.rows(6), UNDONE);
        Due.is("7 of one that is UNDONE", x.rows(7), UNDONE);
        Due.is("7 no failures in it", x.fails(7, 0), 0);
        Due.is("12 all 200", x.rows(8), 200);
        Due.is("12 the last", x.value(8, 199), 24);
        Due.is("9 of p that is UNDONE", x.rows(9), UNDONE);
        Due.is("9 of q that is UNDONE", x.rows(10), UNDONE);
        Due.is("10 no failures", x.count(2), 0);
        joinOf200And201();
        meetOf202();
    }

    private static void meetOf202() {
        OnePassJudge x = new OnePassJudge();
        for (int i = 0; i < 50; i++) {
            x.row(0, 5, 0, i, false);
        }
        x.row(1, 0, 0, 0, false);
        x.row(1, 9, 0, 0, false);
        x.read(0);
        x.read(1);
        x.meet(0, 0);
        x.meet(2, 2);
        x.meet(1, 3);
        x.meet(3, 1);
        Due.is("10 judge()", x.judge(), 4);
        Due.is("10 too many before the last of p", x.rows(4), UNDONE);
        Due.is("10 too many before the last of q", x.rows(5), UNDONE);
    }

    private static void joinOf200And201() {
        OnePassJudge x = new OnePassJudge();
        for (int i = 0; i < 10; i++) {
            x.row(0, 5, 0, i, false);
        }
        for (int i = 0; i < 20; i++) {
            x.row(1, 5, 0, i, false);
        }
        x.row(0, 8, 1, 0, false);
        x.row(1, 9, 1, 0, false);
        x.read(0);
        x.read(1);
        x.join(0, 1, 0);
        x.join(0, 1, 1);
        Due.is("9 judge()", x.judge(), 3);
        Due.is("9 200 rows are none too many", x.rows(2), 200);
        Due.is("9 the last", x.value(2, 199), 9019);
        Due.is("9 201 are", x.rows(3), UNDONE);
        x.late(0, true);
        Due.is("9 judge() again", x.judge(), 4);
        Due.is("9 it is not UNDONE then", x.rows(3), 181);
    }

    private static void promise11FallsRefusals() {
        OnePassJudge x = new OnePassJudge();
        Due.is("11 falls of none", x.falls(0, 0), BAD);
        x.read(0);
        int[] badP = {-1, 1, LEAST, MOST};
        int[] badW = {-1, 1001, LEAST, MOST};
        for (int i = 0; i < 4; i++) {
            Due.is("11 falls p " + badP[i], x.falls(badP[i], 0), BAD);
            Due.is("11 falls w " + badW[i], x.falls(0, badW[i]), BAD);
        }
        Due.is("11 falls least", x.falls(0, 0), 1);
        Due.is("11 falls most", x.falls(1, 1000), 2);
    }

    private static void promise11Falls() {
        OnePassJudge x = Made.with(0, 1, 1, 50, 0, 2, 0, 60, 0, 10, 0, 40, 0, 10, 1, 20, 0, 10, 1, 20, 0, 11, 1, 30,
                0, 20, 1, 25, 0, 31, 1, 24, 0, 31, 1, -24);
        x.read(0);
        x.falls(0, 10);
        x.falls(0, 8);
        x.falls(0, 0);
        x.falls(0, 1000);
        Due.is("11 judge()", x.judge(), 5);
        Due.rows("11 by TIME, then a's place", x, 1, 10, 1, 30, 10, 0, 20, 20, 1, 5, 31, 1, 48);
        Due.rows("11 w 8", x, 2, 10, 0, 20, 31, 1, 48);
        Due.rows("11 w 0", x, 3, 31, 1, 48);
        Due.rows("11 w 1000", x, 4, 10, 1, 30, 10, 0, 20, 20, 1, 5, 31, 1, 1, 31, 1, 48);
        fallsOfLongs();
    }

    private static void fallsOfLongs() {
        OnePassJudge x = Made.with(0, 1, 0, 1, 0, 2, 0, -1);
        x.read(0);
        x.each(0, 0, 1, 1 << 30);
        x.each(0, 1, 1, 1 << 30);
        x.each(0, 2, 1, 7);
        x.falls(3, 1);
        x.judge();
        Due.rows("11 the difference wraps, the order does not", x, 4, 2, 0, 14L << 60);
    }

    private static void promise12First() {
        OnePassJudge x = Made.with(0, 1, 1, 1, 0, 2, 0, 2, 0, 3, 1, 3, 0, 4, 1, 4, 0, 5, 5, 5, 0, 6, 0, 6);
        Due.is("12 first of none", x.first(0, 0), BAD);
        x.read(0);
        int[] badP = {-1, 1, LEAST, MOST};
        int[] badN = {-1, 201, LEAST, MOST};
        for (int i = 0; i < 4; i++) {
            Due.is("12 first p " + badP[i], x.first(badP[i], 0), BAD);
            Due.is("12 first n " + badN[i], x.first(0, badN[i]), BAD);
        }
        Due.is("12 first(0, 0)", x.first(0, 0), 1);
        Due.is("12 first(0, 1)", x.first(0, 1), 2);
        Due.is("12 first(0, 2)", x.first(0, 2), 3);
        Due.is("12 first(0, 200)", x.first(0, 200), 4);
        Due.is("12 judge()", x.judge(), 5);
        Due.rows("12 n 0", x, 1);
        Due.rows("12 n 1", x, 2, 1, 1, 1, 2, 0, 2, 5, 5, 5);
        Due.rows("12 n 2", x, 3, 1, 1, 1, 2, 0, 2, 3, 1, 3, 5, 5, 5, 6, 0, 6);
        Due.rows("12 n 200", x, 4, 1, 1, 1, 2, 0, 2, 3, 1, 3, 4, 1, 4, 5, 5, 5, 6, 0, 6);
        x.judge();
        Due.rows("12 judged again", x, 2, 1, 1, 1, 2, 0, 2, 5, 5, 5);
    }

    private static void promise13Drop() {
        OnePassJudge x = Made.with(0, 1, 1, 1);
        Due.is("13 drop()", x.drop(), STATE);
        x.read(0);
        x.each(0, 0, 2, 0);
        x.tell(0, 1, 1, 1);
        x.tell(1, 1, 1, 1);
        x.judge();
        x.compare(1, 0);
        Due.is("13 where(0)", x.where(0), 0);
        Due.is("13 drop()", x.drop(), 1);
        Due.is("13 nothing is JUDGED", x.rows(0), STATE);
        Due.is("13 where(0)", x.where(0), OnePassJudge.NONE);
        Due.is("13 rows(1)", x.rows(1), BAD);
        Due.is("13 each of the dropped", x.each(0, 1, 0, 0), BAD);
        Due.is("13 the number is used again", x.first(0, 1), 1);
        Due.is("13 what was TOLD of it went", x.untell(1), 0);
        Due.is("13 what is TOLD of others stays", x.untell(0), 1);
        Due.is("13 judge()", x.judge(), 2);
        Due.rows("13", x, 1, 1, 1, 1);
        Due.is("13 failures of the dropped one", x.fails(1, 0), 0);
        Due.is("13 drop()", x.drop(), 1);
        Due.is("13 drop()", x.drop(), 0);
        Due.is("13 drop()", x.drop(), STATE);
        Due.is("13 judge()", x.judge(), STATE);
        Due.is("13 count(0)", x.count(0), 1);
    }
}

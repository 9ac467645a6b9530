/** The boundary cases that part 3 of the document's terms and promises 14 to 24 name. */
public final class JudgingBoundsTest {
    private static final int BAD = OnePassJudge.BAD;
    private static final int FULL = OnePassJudge.FULL;
    private static final int STATE = OnePassJudge.STATE;
    private static final int NONE = OnePassJudge.NONE;
    private static final int SPENT = OnePassJudge.SPENT;
    private static final int UNDONE = OnePassJudge.UNDONE;

    public static void main(String[] args) {
        judgedStaysWhateverIsTold();
        nothingIsJudgedWhenAnOperatorComes();
        nothingIsJudgedWhenAnOperatorGoes();
        judgeOfTwelve();
        judgeOfUndoneOnesAlone();
        spentAt3000AndNotAt2999();
        spentStaysBehindAll();
        oneJudgeGoesBeyond3000();
        rowsAndPlacesOf200();
        rowsOfNone();
        failsOfBothKinds();
        tellAtItsBounds();
        fortyOfEach();
        fortyAgainBehindUntell();
        valueOfAnyLong();
        orderOfNone();
        orderAtTheFirstAndTheLast();
        orderOfEachPart();
        orderOfFortyAndMore();
        setsOfNone();
        setsAreOfTheLeastTimeThenKey();
        setsCountBeforeValues();
        setsOfFortyAndMore();
        setsOfLongs();
        whereOfTheJudgedRow();
        whereIsNone();
        whereOfTheLatest();
        countAtItsBounds();
        clearOfNone();
        clearOfAll();
        Due.end();
    }

    private static void judgedStaysWhateverIsTold() {
        String[] calls = {"row 0 0 0 0 0", "late 0 1", "item 0 5", "wipe", "tell 0 1 0 1", "untell 0", "compare 0 0",
            "compare 1 1", "count 0", "where 0", "read 3", "each 3 0 0 0", "spans 0 0 0", "join 0 2 0", "meet 2 0",
            "falls 0 1001", "first 0 201"};
        for (String call : calls) {
            Call c = Call.of(call);
            OnePassJudge x = Made.with(0, 1, 0, 0, 0, 2, 1, 9);
            x.read(0);
            x.each(0, 0, 4, 0);
            x.judge();
            x.tell(0, 7, 0, 7);
            c.on(x);
            Due.rows("3 READ behind " + c, x, 0, 1, 0, 0, 2, 1, 9);
            Due.rows("3 MAP behind " + c, x, 1, 1, 0, 0);
            Due.is("3 fails(1, 1) behind " + c, x.fails(1, 1), 1);
            Due.is("3 count(2) behind " + c, x.count(2), 1);
        }
    }

    private static void nothingIsJudgedWhenAnOperatorComes() {
        String[] calls = {"read 0", "each 0 0 0 0", "each 1 0 0 0", "each 2 0 0 0", "spans 0 1 0", "join 0 0 0",
            "meet 0 0", "falls 0 0", "first 0 0"};
        for (String call : calls) {
            Call c = Call.of(call);
            OnePassJudge x = Made.judgedFour();
            Due.is("21 compare", x.compare(0, 0), 1);
            Due.is(c.toString(), c.on(x), 1);
            nothingIsJudged("3 behind " + c, x);
            Due.is("3 judge()", x.judge(), 2);
            Due.is("3 rows(0)", x.rows(0), 4);
            Due.is("22 none since judge()", x.where(1), NONE);
        }
    }

    private static void nothingIsJudgedWhenAnOperatorGoes() {
        OnePassJudge x = Made.judgedFour();
        x.read(1);
        x.judge();
        Due.is("21 compare", x.compare(0, 0), 1);
        Due.is("13 drop()", x.drop(), 1);
        nothingIsJudged("3 behind drop()", x);
        x.judge();
        Due.is("21 compare", x.compare(0, 0), 1);
        Due.is("24 clear()", x.clear(), 1);
        Due.is("22 nothing is JUDGED behind clear()", x.where(1), NONE);
        x.read(0);
        nothingIsJudged("3 behind clear()", x);
    }

    private static void nothingIsJudged(String what, OnePassJudge x) {
        Due.is(what + ": rows", x.rows(0), STATE);
        Due.is(what + ": told", x.told(0, 0, 0), STATE);
        Due.is(what + ": value", x.value(0, 0), 0);
        Due.is(what + ": fails", x.fails(0, 0), STATE);
        Due.is(what + ": compare", x.compare(0, 0), STATE);
        for (int i = 0; i < 3; i++) {
            Due.is(what + ": where", x.where(i), NONE);
        }
    }

    private static void judgeOfTwelve() {
        OnePassJudge x = Made.with(0, 5, 5, 5);
        x.read(0);
        for (int i = 1; i < 12; i++) {
            x.each(0, i - 1, 0, 1);
        }
        Due.is("14 judge() of 12", x.judge(), 12);
        Due.rows("14 in order", x, 11, 5, 5, 16);
    }

    private static void judgeOfUndoneOnesAlone() {
        OnePassJudge x = new OnePassJudge();
        Made.addAlike(x, 60, 0, 0, 0);
        x.read(0);
        x.join(0, 0, 0);
        Due.is("14 judge()", x.judge(), 1);
        Due.is("14 rows(1)", x.rows(1), UNDONE);
        x.wipe();
        Due.is("14 judge()", x.judge(), 2);
        Due.is("14 rows(1)", x.rows(1), 0);
    }

    /** 60 rows by which FUNCTION 4 FAILS in 10 OPERATORS, 600 a judge(); they are behind READ 0. */
    private static OnePassJudge failing() {
        OnePassJudge x = new OnePassJudge();
        for (int i = 0; i < 60; i++) {
            x.row(0, i, 0, -1, false);
        }
        x.read(0);
        for (int i = 0; i < 10; i++) {
            x.each(i % 3, 0, 4, 0);
        }
        return x;
    }

    private static void judgeTimes(OnePassJudge x, int n, int done) {
        for (int i = 0; i < n; i++) {
            Due.is("14 judge()", x.judge(), done);
        }
    }

    private static void spentAt3000AndNotAt2999() {
        OnePassJudge x = failing();
        judgeTimes(x, 5, 11);
        Due.is("23 count(2)", x.count(2), 3000);
        Due.is("14 SPENT at 3000", x.judge(), SPENT);
        OnePassJudge y = failing();
        judgeTimes(y, 4, 11);
        y.drop();
        judgeTimes(y, 1, 10);
        for (int i = 0; i < 8; i++) {
            y.drop();
        }
        y.late(0, true);
        judgeTimes(y, 1, 2);
        Due.is("23 count(2)", y.count(2), 2999);
        y.wipe();
        y.row(0, 0, 0, 0, false);
        judgeTimes(y, 2, 2);
        Due.is("14 still 2999", y.count(2), 2999);
        y.row(0, 1, 0, 8, false);
        judgeTimes(y, 1, 2);
        Due.is("14 now 3000", y.count(2), 3000);
        Due.is("14 SPENT", y.judge(), SPENT);
    }

    private static void spentStaysBehindAll() {
        OnePassJudge x = failing();
        judgeTimes(x, 5, 11);
        Due.is("21 compare", x.compare(0, 0), 1);
        Due.is("14 SPENT", x.judge(), SPENT);
        Due.is("14 what is JUDGED stays", x.rows(0), 60);
        Due.is("14 and what FAILED", x.fails(10, 1), 60);
        Due.is("22 and where", x.where(0), 0);
        Due.is("23 and how often", x.count(2), 3000);
        x.wipe();
        Due.is("14 SPENT without rows", x.judge(), SPENT);
        x.drop();
        Due.is("14 SPENT", x.judge(), SPENT);
        Due.is("15 nothing is JUDGED any more", x.rows(0), STATE);
        x.clear();
        Due.is("14 STATE before SPENT", x.judge(), STATE);
        x.read(0);
        Due.is("14 SPENT behind clear()", x.judge(), SPENT);
        Due.is("15 nothing was JUDGED", x.rows(0), STATE);
        Due.is("23 how often stays", x.count(2), 3000);
    }

    private static void oneJudgeGoesBeyond3000() {
        OnePassJudge x = failing();
        judgeTimes(x, 4, 11);
        x.each(0, 0, 2, 0);
        judgeTimes(x, 1, 12);
        Due.is("23 count(2)", x.count(2), 3060);
        Due.is("18 it was JUDGED to its end", x.fails(11, 0), 60);
        Due.is("14 SPENT", x.judge(), SPENT);
    }

    private static void rowsAndPlacesOf200() {
        OnePassJudge x = new OnePassJudge();
        Made.addAlike(x, 50, 0, 3, 2);
        x.read(0);
        x.meet(0, 0);
        x.meet(1, 1);
        x.judge();
        Due.is("15 rows(2)", x.rows(2), 200);
        Due.is("16 the first TIME", x.told(2, 0, 0), 3);
        Due.is("16 the last KEY", x.told(2, 199, 1), 2);
        Due.is("17 the last", x.value(2, 199), 49);
        Due.is("16 behind the last", x.told(2, 200, 0), NONE);
        Due.is("17 behind the last", x.value(2, 200), 0);
        Due.is("16 before the first", x.told(2, -1, 1), NONE);
        Due.is("17 before the first", x.value(2, -1), 0);
        Due.is("16 behind the last of fewer", x.told(0, 50, 0), NONE);
        Due.is("16 the last of fewer", x.told(0, 49, 0), 3);
    }

    private static void rowsOfNone() {
        OnePassJudge x = new OnePassJudge();
        x.read(0);
        x.judge();
        Due.is("15 rows(0)", x.rows(0), 0);
        Due.is("16 told(0, 0, 0)", x.told(0, 0, 0), NONE);
        Due.is("16 told(0, 0, 1)", x.told(0, 0, 1), NONE);
        Due.is("17 value(0, 0)", x.value(0, 0), 0);
    }

    private static void failsOfBothKinds() {
        OnePassJudge x = Made.with(0, 0, 0, -1, 0, 1, 0, 0, 0, 2, 0, 7, 0, 3, 0, 8);
        x.read(0);
        x.each(0, 0, 4, 0);
        x.each(1, 0, 2, 0);
        x.each(2, 0, 3, 0);
        x.each(0, 0, 0, 0);
        x.spans(1, 1, 0);
        Due.is("14 judge()", x.judge(), 6);
        int[][] due = {{0, 0}, {0, 2}, {4, 0}, {4, 0}, {0, 0}, {0, 0}};
        for (int op = 0; op < due.length; op++) {
            Due.is("18 fails(" + op + ", 0)", x.fails(op, 0), due[op][0]);
            Due.is("18 fails(" + op + ", 1)", x.fails(op, 1), due[op][1]);
        }
        Due.is("23 count(2)", x.count(2), 10);
    }

    private static void tellAtItsBounds() {
        OnePassJudge x = Made.judgedFour();
        Due.is("19 TIME 0, KEY 0", x.tell(0, 0, 0, 0), 1);
        Due.is("19 TIME 20000, KEY 5", x.tell(0, 20_000, 5, 0), 2);
        Due.is("19 TIME 20001", x.tell(0, 20_001, 5, 0), BAD);
        Due.is("19 TIME -1", x.tell(0, -1, 0, 0), BAD);
        Due.is("19 KEY 6", x.tell(0, 0, 6, 0), BAD);
        Due.is("19 KEY -1", x.tell(0, 0, -1, 0), BAD);
        Due.is("20 untell(0)", x.untell(0), 2);
        x.wipe();
        x.judge();
        Made.tell(x, 20_000, 5, 1);
        Due.compared("22 ORDER", x, 0, 2, 0, 20_000, 5);
        Due.compared("22 SETS", x, 1, 2, -4, 20_000, 5);
    }

    private static void fortyOfEach() {
        OnePassJudge x = new OnePassJudge();
        for (int op = 0; op < 3; op++) {
            x.read(op);
        }
        for (int op = 0; op < 3; op++) {
            for (int i = 1; i <= 40; i++) {
                Due.is("19 tell(" + op + ")", x.tell(op, i, 0, i), i);
            }
            Due.is("19 the 41st of " + op, x.tell(op, 0, 0, 0), FULL);
        }
        x.judge();
        Due.is("19 FULL, JUDGED or not", x.tell(2, 0, 0, 0), FULL);
        Due.is("21 compare", x.compare(2, 0), 2);
        Due.is("22 the first of them", x.where(1), 1);
        Due.is("20 untell(1)", x.untell(1), 40);
        Due.is("20 of the others it stays", x.untell(0), 40);
        Due.is("20 of the others it stays", x.untell(2), 40);
    }

    private static void fortyAgainBehindUntell() {
        OnePassJudge x = new OnePassJudge();
        x.read(0);
        for (int round = 0; round < 3; round++) {
            Due.is("20 nothing is TOLD", x.untell(0), 0);
            for (int i = 1; i <= 40; i++) {
                Due.is("19 tell", x.tell(0, 0, 0, i), i);
            }
            Due.is("19 FULL", x.tell(0, 0, 0, 41), FULL);
            Due.is("20 untell(0)", x.untell(0), 40);
        }
    }

    private static void valueOfAnyLong() {
        OnePassJudge x = Made.withLongs(Integer.MIN_VALUE);
        x.each(0, 3, 0, -1);
        x.judge();
        for (int as = 0; as < 2; as++) {
            x.untell(3);
            x.untell(4);
            x.tell(3, 0, 0, Long.MIN_VALUE);
            x.tell(4, 0, 0, Long.MAX_VALUE);
            Due.is("21 the least long", x.compare(3, as), 0);
            Due.is("21 the most", x.compare(4, as), 0);
            x.untell(3);
            x.tell(3, 0, 0, 0);
            Due.is("21 of the same lower half", x.compare(3, as), 3);
            x.untell(4);
            x.tell(4, 0, 0, -1);
            Due.is("21 of the same lower half", x.compare(4, as), 3);
        }
    }

    private static void orderOfNone() {
        OnePassJudge x = new OnePassJudge();
        x.read(0);
        x.judge();
        Due.alike("21 none and none", x, 0);
        Made.tell(x, 7, 3, 0);
        Due.compared("21 one and none", x, 0, 2, 0, 7, 3);
        OnePassJudge y = Made.judgedFour();
        Due.compared("21 none and four", y, 0, 1, 0, 1, 0);
    }

    private static void orderAtTheFirstAndTheLast() {
        OnePassJudge x = Made.judgedFour();
        Made.tell(x, 1, 0, 9, 2, 0, 2, 2, 1, 3, 4, 1, 4);
        Due.compared("21 the first differs", x, 0, 3, 0, 1, 0);
        Made.tell(x, 1, 0, 1, 2, 0, 2, 2, 1, 3, 4, 1, 9);
        Due.compared("21 the last differs", x, 0, 3, 3, 4, 1);
        Made.tell(x, 1, 0, 1, 2, 0, 2, 2, 1, 3);
        Due.compared("21 the last lacks", x, 0, 1, 3, 4, 1);
        Made.tell(x, 1, 0, 1, 2, 0, 2, 2, 1, 3, 4, 1, 4, 4, 1, 4);
        Due.compared("21 one more than the last", x, 0, 2, 4, 4, 1);
        Made.tell(x, 1, 0, 9, 2, 0, 2, 2, 1, 3, 4, 1, 4, 4, 1, 4);
        Due.compared("21 one that differs, before one too many", x, 0, 3, 0, 1, 0);
        Made.tell(x, 1, 0, 1, 2, 0, 9);
        Due.compared("21 one that differs, before one that lacks", x, 0, 3, 1, 2, 0);
    }

    private static void orderOfEachPart() {
        OnePassJudge x = Made.judgedFour();
        Made.tell(x, 1, 0, 1, 3, 0, 2, 2, 1, 3, 4, 1, 4);
        Due.compared("21 the TIME alone", x, 0, 3, 1, 2, 0);
        Made.tell(x, 1, 0, 1, 2, 1, 2, 2, 1, 3, 4, 1, 4);
        Due.compared("21 the KEY alone", x, 0, 3, 1, 2, 0);
        Made.tell(x, 1, 0, 1, 2, 0, 1, 2, 1, 3, 4, 1, 4);
        Due.compared("21 the VALUE alone", x, 0, 3, 1, 2, 0);
        Made.tell(x, 1, 0, 1, 2, 0, 2, 2, 1, 3, 4, 1, 4);
        Due.alike("21 none of them", x, 0);
    }

    /** READ 0 of n rows at the TIMES 0, 1, .., of KEY 0, with the VALUES 0, 1, ..; m of them are TOLD. */
    private static OnePassJudge toldOf(int n, int m) {
        OnePassJudge x = new OnePassJudge();
        for (int i = 0; i < n; i++) {
            x.row(0, i, 0, i, false);
        }
        x.read(0);
        x.judge();
        for (int i = 0; i < m; i++) {
            Due.is("tell", x.tell(0, i, 0, i), i + 1);
        }
        return x;
    }

    private static void orderOfFortyAndMore() {
        Due.alike("21 40 and 40", toldOf(40, 40), 0);
        Due.compared("21 40 of 41", toldOf(41, 40), 0, 1, 40, 40, 0);
        Due.compared("21 40 of 60", toldOf(60, 40), 0, 1, 40, 40, 0);
        Due.compared("21 39 of 40", toldOf(40, 39), 0, 1, 39, 39, 0);
        Due.compared("21 40 and 39", told40And39(), 0, 2, 39, 39, 5);
    }

    private static void setsOfFortyAndMore() {
        Due.alike("21 40 and 40", toldOf(40, 40), 1);
        Due.compared("21 40 of 41", toldOf(41, 40), 1, 1, -4, 40, 0);
        Due.compared("21 40 of 60", toldOf(60, 40), 1, 1, -4, 40, 0);
        Due.compared("21 39 of 40", toldOf(40, 39), 1, 1, -4, 39, 0);
        Due.compared("21 40 and 39", told40And39(), 1, 2, -4, 39, 5);
    }

    private static OnePassJudge told40And39() {
        OnePassJudge x = toldOf(39, 39);
        Due.is("tell", x.tell(0, 39, 5, 0), 40);
        return x;
    }

    private static void setsOfNone() {
        OnePassJudge x = new OnePassJudge();
        x.read(0);
        x.judge();
        Due.alike("21 none and none", x, 1);
        Made.tell(x, 7, 3, 0);
        Due.compared("21 one and none", x, 1, 2, -4, 7, 3);
        Made.tell(x, 7, 3, 0, 7, 2, 0, 6, 5, 0);
        Due.compared("21 the least TIME", x, 1, 2, -4, 6, 5);
        Made.tell(x, 7, 3, 0, 7, 2, 0);
        Due.compared("21 the least KEY", x, 1, 2, -4, 7, 2);
        OnePassJudge y = Made.judgedFour();
        Due.compared("21 none and four", y, 1, 1, -4, 1, 0);
    }

    private static void setsAreOfTheLeastTimeThenKey() {
        OnePassJudge x = Made.judgedFour();
        Made.tell(x, 4, 1, 9, 2, 1, 9, 2, 0, 9, 1, 0, 9);
        Due.compared("21 all differ", x, 1, 3, -4, 1, 0);
        Made.tell(x, 4, 1, 9, 2, 1, 9, 2, 0, 9, 1, 0, 1);
        Due.compared("21 all but the first", x, 1, 3, -4, 2, 0);
        Made.tell(x, 4, 1, 9, 2, 1, 9, 2, 0, 2, 1, 0, 1);
        Due.compared("21 KEY 1 of that TIME", x, 1, 3, -4, 2, 1);
        Made.tell(x, 4, 1, 9, 2, 1, 3, 2, 0, 2, 1, 0, 1);
        Due.compared("21 the last", x, 1, 3, -4, 4, 1);
        Made.tell(x, 3, 5, 0, 2, 1, 3, 2, 0, 2, 1, 0, 1);
        Due.compared("21 one too many before one that lacks", x, 1, 2, -4, 3, 5);
        Made.tell(x, 5, 0, 0, 2, 1, 3, 2, 0, 2, 1, 0, 1);
        Due.compared("21 one that lacks before one too many", x, 1, 1, -4, 4, 1);
        Made.tell(x, 0, 0, 0, 4, 1, 4, 2, 1, 3, 2, 0, 2, 1, 0, 1);
        Due.compared("21 TIME 0 is too many", x, 1, 2, -4, 0, 0);
    }

    /** At TIME 3, KEY 3 are the VALUES 5, 5, 7. */
    private static void setsCountBeforeValues() {
        OnePassJudge x = Made.with(0, 3, 3, 5, 0, 3, 3, 7, 0, 3, 3, 5);
        x.read(0);
        x.judge();
        Made.tell(x, 3, 3, 5, 3, 3, 5, 3, 3, 7);
        Due.alike("21 each as often", x, 1);
        Made.tell(x, 3, 3, 7, 3, 3, 5, 3, 3, 7);
        Due.compared("21 as many, of other VALUES", x, 1, 3, -4, 3, 3);
        Made.tell(x, 3, 3, 8, 3, 3, 9);
        Due.compared("21 fewer, of other VALUES", x, 1, 1, -4, 3, 3);
        Made.tell(x, 3, 3, 5, 3, 3, 7);
        Due.compared("21 fewer, each once", x, 1, 1, -4, 3, 3);
        Made.tell(x, 3, 3, 7, 3, 3, 7, 3, 3, 7, 3, 3, 7);
        Due.compared("21 more, of one VALUE", x, 1, 2, -4, 3, 3);
        Made.tell(x, 3, 3, 5, 3, 3, 7, 3, 3, 5, 3, 3, 5);
        Due.compared("21 more, one too often", x, 1, 2, -4, 3, 3);
        Made.tell(x, 3, 3, 0, 3, 3, 0, 3, 3, 0, 2, 5, 0);
        Due.compared("21 a lesser TIME before all that", x, 1, 2, -4, 2, 5);
    }

    private static void setsOfLongs() {
        OnePassJudge x = Made.withLongs(Integer.MIN_VALUE, 0, Integer.MAX_VALUE);
        x.spans(3, 1000, 2);
        x.each(0, 4, 0, -1);
        x.meet(5, 4);
        x.judge();
        x.tell(6, 999, 0, Long.MAX_VALUE);
        x.tell(6, 999, 0, Long.MIN_VALUE);
        Due.is("21 SETS", x.compare(6, 1), 0);
        Due.is("21 ORDER", x.compare(6, 0), 0);
        x.untell(6);
        x.tell(6, 999, 0, Long.MIN_VALUE);
        x.tell(6, 999, 0, Long.MAX_VALUE);
        Due.is("21 SETS the other way", x.compare(6, 1), 0);
        Due.is("21 ORDER the other way", x.compare(6, 0), 3);
        x.untell(6);
        x.tell(6, 999, 0, Long.MIN_VALUE);
        x.tell(6, 999, 0, Long.MIN_VALUE);
        Due.is("21 not as often", x.compare(6, 1), 3);
    }

    private static void whereOfTheJudgedRow() {
        OnePassJudge x = Made.judgedFour();
        Made.tell(x, 1, 0, 1, 9, 5, 2);
        Due.compared("22 of the JUDGED row", x, 0, 3, 1, 2, 0);
        Made.tell(x, 1, 0, 1, 2, 0, 2, 2, 1, 3, 4, 1, 4, 20_000, 5, 0);
        Due.compared("22 of the TOLD one, if there is none", x, 0, 2, 4, 20_000, 5);
        Due.is("22 where(-1)", x.where(-1), BAD);
        Due.is("22 where(3)", x.where(3), BAD);
    }

    private static void whereIsNone() {
        OnePassJudge x = new OnePassJudge();
        Due.is("22 a new one", x.where(0), NONE);
        Due.is("22 BAD before NONE", x.where(3), BAD);
        Due.is("22 BAD before NONE", x.where(-1), BAD);
        x.read(0);
        Due.is("22 not JUDGED", x.where(1), NONE);
        x.judge();
        Due.is("22 not compared", x.where(2), NONE);
        x.compare(0, 2);
        Due.is("22 refused", x.where(2), NONE);
        Due.alike("22 alike", x, 0);
        Due.alike("22 alike", x, 1);
    }

    private static void whereOfTheLatest() {
        OnePassJudge x = Made.judgedFour();
        x.read(1);
        x.judge();
        Due.is("21 compare", x.compare(0, 0), 1);
        Due.is("22 the place", x.where(0), 0);
        Due.is("21 compare", x.compare(0, 1), 1);
        Due.is("22 no place", x.where(0), -4);
        Due.is("22 but a TIME", x.where(1), 1);
        Due.is("21 alike", x.compare(1, 0), 0);
        Due.is("22 the latest was 0", x.where(1), NONE);
        Due.is("21 refused", x.compare(2, 0), BAD);
        Due.is("22 it was, of those that were not refused", x.where(1), NONE);
        Due.is("21 compare", x.compare(0, 1), 1);
        Due.is("21 alike as SETS", x.compare(1, 1), 0);
        Due.is("22 the latest was 0", x.where(1), NONE);
        Due.is("21 compare", x.compare(0, 0), 1);
        Due.is("21 refused", x.compare(2, 0), BAD);
        Due.is("21 refused", x.compare(0, -1), BAD);
        Due.is("22 refused ones change nothing", x.where(1), 1);
        Due.is("14 judge()", x.judge(), 2);
        Due.is("22 none since the latest judge()", x.where(1), NONE);
    }

    private static void countAtItsBounds() {
        OnePassJudge x = failing();
        Due.is("23 count(-1)", x.count(-1), BAD);
        Due.is("23 count(3)", x.count(3), BAD);
        Due.is("23 count(0)", x.count(0), 60);
        Due.is("23 count(1)", x.count(1), 11);
        Due.is("23 count(2)", x.count(2), 0);
        x.row(0, 0, 0, 0, false);
        x.read(0);
        x.read(0);
        Due.is("23 count(0) behind FULL", x.count(0), 60);
        Due.is("23 count(1) behind FULL", x.count(1), 12);
    }

    private static void clearOfNone() {
        OnePassJudge x = new OnePassJudge();
        Due.is("24 clear() of a new one", x.clear(), 0);
        x.row(0, 0, 0, 0, false);
        x.item(0, 1);
        Due.is("24 no OPERATORS, but a ROW", x.clear(), 0);
        Due.is("24 no ROWS", x.count(0), 0);
        Due.is("24 THE TABLE 0", x.item(0, 0), 0);
    }

    private static void clearOfAll() {
        OnePassJudge x = failing();
        x.read(0);
        for (int i = 0; i < 8; i++) {
            x.item(i, -1 - i);
        }
        for (int i = 0; i < 40; i++) {
            x.tell(0, 0, 0, 0);
            x.tell(11, 0, 0, 0);
        }
        x.judge();
        x.compare(0, 0);
        Due.is("24 clear()", x.clear(), 12);
        Due.is("24 count(0)", x.count(0), 0);
        Due.is("24 count(1)", x.count(1), 0);
        Due.is("24 how often FUNCTIONS FAILED stays", x.count(2), 600);
        for (int i = 0; i < 8; i++) {
            Due.is("24 ITEM " + i, x.item(i, 0), 0);
        }
        for (int i = 0; i < 12; i++) {
            Due.is("24 read", x.read(0), i);
        }
        nothingIsJudged("24", x);
        Due.is("24 nothing TOLD of the first", x.tell(0, 0, 0, 0), 1);
        Due.is("24 nothing TOLD of the last", x.tell(11, 0, 0, 0), 1);
        Made.addAlike(x, 60, 0, 0, 0);
        Due.is("14 judge()", x.judge(), 12);
        Due.is("15 rows(11)", x.rows(11), 60);
        Due.is("18 no failure is left", x.fails(10, 1), 0);
    }
}

/** Promises 14 to 24: judge, rows, told, value, fails, tell, untell, compare, where, count, clear. */
public final class JudgingTest {
    private static final int BAD = OnePassJudge.BAD;
    private static final int FULL = OnePassJudge.FULL;
    private static final int STATE = OnePassJudge.STATE;
    private static final int NONE = OnePassJudge.NONE;
    private static final int SPENT = OnePassJudge.SPENT;
    private static final int UNDONE = OnePassJudge.UNDONE;
    private static final int LEAST = Integer.MIN_VALUE;
    private static final int MOST = Integer.MAX_VALUE;
    private static final int[] OUTSIDE_OF_ONE = {-1, 1, LEAST, MOST};

    public static void main(String[] args) {
        promise14Judge();
        promise14Spent();
        promises15To18Refusals();
        promises15To18OfUndone();
        promise16And17NoSuchRow();
        promise18Fails();
        promise19Tell();
        promise20Untell();
        promise21Refusals();
        promise21Order();
        promise21Sets();
        promise21SetsAsOften();
        promise21TellsAndJudgesApart();
        promise22Where();
        promise22WhereStays();
        promise23Count();
        promise24Clear();
        Due.end();
    }

    /** READ 0 and 1, and JOIN 2 of them, which is UNDONE, and MAP 3 of that. */
    private static OnePassJudge undone() {
        OnePassJudge x = new OnePassJudge();
        for (int i = 0; i < 30; i++) {
            x.row(0, i, 0, i, false);
            x.row(1, i, 0, i, false);
        }
        x.read(0);
        x.read(1);
        x.join(0, 1, 1000);
        x.each(0, 2, 2, 0);
        return x;
    }

    private static void promise14Judge() {
        OnePassJudge x = new OnePassJudge();
        Due.is("14 judge()", x.judge(), STATE);
        x.row(0, 3, 1, 3, false);
        x.row(0, 2, 1, 2, false);
        Due.is("14 judge()", x.judge(), STATE);
        x.read(0);
        Due.is("14 judge()", x.judge(), 1);
        Due.rows("14", x, 0, 2, 1, 2, 3, 1, 3);
        x.row(0, 1, 1, 1, false);
        Due.rows("14 what is JUDGED stays", x, 0, 2, 1, 2, 3, 1, 3);
        Due.is("14 judge()", x.judge(), 1);
        Due.rows("14 nothing is kept from before", x, 0, 1, 1, 1, 2, 1, 2, 3, 1, 3);
        Due.is("14 judge() with UNDONE ones", undone().judge(), 2);
    }

    private static void promise14Spent() {
        OnePassJudge x = new OnePassJudge();
        for (int i = 0; i < 60; i++) {
            x.row(0, i, 0, i, false);
        }
        x.read(0);
        for (int i = 0; i < 10; i++) {
            x.each(0, 0, 2, 0);
        }
        for (int i = 1; i <= 4; i++) {
            Due.is("14 judge()", x.judge(), 11);
            Due.is("14 count(2)", x.count(2), 600 * i);
        }
        x.late(0, true);
        x.drop();
        Due.is("14 judge()", x.judge(), 10);
        Due.is("14 count(2)", x.count(2), 2931);
        while (x.count(1) > 2) {
            x.drop();
        }
        Due.is("14 judge()", x.judge(), 2);
        Due.is("14 count(2)", x.count(2), 2990);
        for (int i = 10; i < 60; i++) {
            x.late(i, true);
        }
        Due.is("14 judge()", x.judge(), 2);
        Due.is("14 count(2)", x.count(2), 2999);
        x.compare(0, 0);
        Due.is("14 judge() at 2999", x.judge(), 2);
        Due.is("14 count(2)", x.count(2), 3008);
        spentChangesNothing(x);
    }

    private static void spentChangesNothing(OnePassJudge x) {
        Due.is("14 compare", x.compare(0, 0), 1);
        x.wipe();
        Due.is("14 SPENT", x.judge(), SPENT);
        Due.is("14 what is JUDGED stays", x.rows(0), 9);
        Due.is("14 fails(1, 0)", x.fails(1, 0), 9);
        Due.is("14 where(1)", x.where(1), 1);
        Due.is("14 count(2)", x.count(2), 3008);
        x.drop();
        Due.is("14 SPENT", x.judge(), SPENT);
        Due.is("14 rows(0)", x.rows(0), STATE);
        Due.is("24 clear()", x.clear(), 1);
        Due.is("14 STATE before SPENT", x.judge(), STATE);
        x.read(0);
        Due.is("24 how often FUNCTIONS FAILED stays", x.count(2), 3008);
        Due.is("14 SPENT", x.judge(), SPENT);
        spentAtJust3000();
    }

    private static void spentAtJust3000() {
        OnePassJudge x = new OnePassJudge();
        for (int i = 0; i < 60; i++) {
            x.row(0, i, 0, 8, false);
        }
        x.read(0);
        for (int i = 0; i < 10; i++) {
            x.each(0, 0, 4, 0);
        }
        for (int i = 1; i <= 5; i++) {
            Due.is("14 judge()", x.judge(), 11);
        }
        Due.is("14 count(2)", x.count(2), 3000);
        Due.is("14 SPENT at 3000", x.judge(), SPENT);
    }

    private static void promises15To18Refusals() {
        OnePassJudge x = Made.four();
        Due.is("15 rows(0)", x.rows(0), STATE);
        Due.is("16 told(0, 0, 0)", x.told(0, 0, 0), STATE);
        Due.is("16 STATE before NONE", x.told(0, 9, 0), STATE);
        Due.is("17 value(0, 0)", x.value(0, 0), 0);
        Due.is("18 fails(0, 0)", x.fails(0, 0), STATE);
        for (int round = 0; round < 2; round++) {
            for (int op : OUTSIDE_OF_ONE) {
                Due.is("15 rows(" + op + ")", x.rows(op), BAD);
                Due.is("16 told(" + op + ", 0, 0)", x.told(op, 0, 0), BAD);
                Due.is("17 value(" + op + ", 0)", x.value(op, 0), 0);
                Due.is("18 fails(" + op + ", 0)", x.fails(op, 0), BAD);
            }
            for (int bad : new int[] {-1, 2, LEAST, MOST}) {
                Due.is("16 told(0, 0, " + bad + ")", x.told(0, 0, bad), BAD);
                Due.is("16 BAD before NONE", x.told(0, 9, bad), BAD);
                Due.is("18 fails(0, " + bad + ")", x.fails(0, bad), BAD);
            }
            x.judge();
        }
        Due.is("15 rows(0)", x.rows(0), 4);
        Due.is("18 fails(0, 1)", x.fails(0, 1), 0);
    }

    private static void promises15To18OfUndone() {
        OnePassJudge x = undone();
        Due.is("15 STATE before UNDONE", x.rows(2), STATE);
        x.judge();
        for (int op = 2; op < 4; op++) {
            Due.is("15 rows", x.rows(op), UNDONE);
            Due.is("16 told", x.told(op, 0, 0), UNDONE);
            Due.is("16 UNDONE before NONE", x.told(op, -1, 1), UNDONE);
            Due.is("16 BAD before UNDONE", x.told(op, 0, 2), BAD);
            Due.is("17 value", x.value(op, 0), 0);
            Due.is("17 value", x.value(op, 199), 0);
            Due.is("18 fails", x.fails(op, 0), 0);
            Due.is("18 fails", x.fails(op, 1), 0);
            Due.is("19 tell", x.tell(op, 0, 0, 0), 1);
            Due.is("21 compare", x.compare(op, 0), UNDONE);
            Due.is("21 compare", x.compare(op, 1), UNDONE);
            Due.is("20 untell", x.untell(op), 1);
        }
    }

    private static void promise16And17NoSuchRow() {
        OnePassJudge x = Made.four();
        x.judge();
        for (int bad : new int[] {-1, 4, LEAST, MOST}) {
            Due.is("16 told(0, " + bad + ", 0)", x.told(0, bad, 0), NONE);
            Due.is("16 told(0, " + bad + ", 1)", x.told(0, bad, 1), NONE);
            Due.is("17 value(0, " + bad + ")", x.value(0, bad), 0);
        }
        Due.is("16 told(0, 3, 0)", x.told(0, 3, 0), 4);
        Due.is("16 told(0, 3, 1)", x.told(0, 3, 1), 1);
        Due.is("17 value(0, 3)", x.value(0, 3), 4);
        x.wipe();
        x.judge();
        Due.is("16 gone", x.told(0, 0, 0), NONE);
        Due.is("17 gone", x.value(0, 0), 0);
        x.row(0, 7, 2, 8, false);
        x.judge();
        x.read(1);
        Due.is("17 nothing is JUDGED", x.value(0, 0), 0);
    }

    private static void promise18Fails() {
        OnePassJudge x = Made.four();
        x.item(1, 100);
        x.each(0, 0, 4, 0);
        x.each(0, 1, 4, 0);
        x.each(0, 0, 3, 0);
        for (int i = 1; i <= 2; i++) {
            x.judge();
            Due.is("18 fails(1, 1)", x.fails(1, 1), 0);
            Due.is("18 fails(2, 0)", x.fails(2, 0), 0);
            Due.is("18 fails(2, 1): of one judging alone", x.fails(2, 1), 1);
            Due.is("18 fails(3, 0)", x.fails(3, 0), 4);
            Due.is("18 count(2)", x.count(2), 5 * i);
        }
        x.late(0, true);
        Due.is("18 fails(3, 0) stays", x.fails(3, 0), 4);
        x.judge();
        Due.is("18 fails(2, 1)", x.fails(2, 1), 0);
        Due.is("18 fails(3, 0)", x.fails(3, 0), 3);
    }

    private static void promise19Tell() {
        OnePassJudge x = Made.four();
        for (int op : OUTSIDE_OF_ONE) {
            Due.is("19 tell(" + op + ")", x.tell(op, 0, 0, 0), BAD);
        }
        for (int bad : new int[] {-1, 20_001, LEAST, MOST}) {
            Due.is("19 tell time " + bad, x.tell(0, bad, 0, 0), BAD);
        }
        for (int bad : new int[] {-1, 6, LEAST, MOST}) {
            Due.is("19 tell key " + bad, x.tell(0, 0, bad, 0), BAD);
        }
        Due.is("19 tell", x.tell(0, 20_000, 5, Long.MIN_VALUE), 1);
        Due.is("19 tell", x.tell(0, 0, 0, Long.MAX_VALUE), 2);
        for (int i = 3; i <= 40; i++) {
            Due.is("19 tell", x.tell(0, i, 0, i), i);
        }
        Due.is("19 FULL", x.tell(0, 0, 0, 0), FULL);
        Due.is("19 BAD before FULL", x.tell(0, 0, 6, 0), BAD);
        x.read(1);
        Due.is("19 of another", x.tell(1, 0, 0, 0), 1);
        Due.is("20 untell(0)", x.untell(0), 40);
        Due.is("19 tell", x.tell(0, 0, 0, 0), 1);
    }

    private static void promise20Untell() {
        OnePassJudge x = Made.four();
        for (int op : OUTSIDE_OF_ONE) {
            Due.is("20 untell(" + op + ")", x.untell(op), BAD);
        }
        x.read(1);
        Due.is("20 untell(0)", x.untell(0), 0);
        x.tell(0, 1, 0, 1);
        x.tell(0, 2, 0, 2);
        x.tell(1, 1, 0, 1);
        x.judge();
        Due.is("20 compare", x.compare(0, 0), 1);
        Due.is("20 untell(0)", x.untell(0), 2);
        Due.is("20 where stays", x.where(0), 2);
        Due.is("20 untell(0)", x.untell(0), 0);
        Due.is("20 what is JUDGED stays", x.rows(0), 4);
        Due.is("20 compare", x.compare(0, 0), 1);
        Due.is("20 untell(1)", x.untell(1), 1);
    }

    private static void promise21Refusals() {
        OnePassJudge x = Made.four();
        Due.is("21 STATE", x.compare(0, 0), STATE);
        Due.is("21 STATE", x.compare(0, 1), STATE);
        for (int round = 0; round < 2; round++) {
            for (int op : OUTSIDE_OF_ONE) {
                Due.is("21 compare(" + op + ", 0)", x.compare(op, 0), BAD);
            }
            for (int as : new int[] {-1, 2, LEAST, MOST}) {
                Due.is("21 compare(0, " + as + ")", x.compare(0, as), BAD);
            }
            x.judge();
        }
        Due.is("21 compare(0, 0)", x.compare(0, 0), 1);
    }

    private static void promise21Order() {
        OnePassJudge x = Made.four();
        x.judge();
        Due.compared("21 nothing TOLD", x, 0, 1, 0, 1, 0);
        Made.tell(x, 1, 0, 1, 2, 0, 2, 2, 1, 3, 4, 1, 4);
        Due.alike("21", x, 0);
        Made.tell(x, 1, 0, 1, 2, 0, 2, 2, 1, 3);
        Due.compared("21 too few", x, 0, 1, 3, 4, 1);
        Made.tell(x, 1, 0, 1, 2, 0, 2, 2, 1, 3, 4, 1, 4, 19_999, 3, 0);
        Due.compared("21 too many", x, 0, 2, 4, 19_999, 3);
        Made.tell(x, 1, 0, 1, 2, 1, 3, 2, 0, 2, 4, 1, 4);
        Due.compared("21 another order", x, 0, 3, 1, 2, 0);
        Made.tell(x, 1, 0, 1, 2, 0, 2, 3, 1, 3);
        Due.compared("21 another TIME", x, 0, 3, 2, 2, 1);
        Made.tell(x, 1, 0, 1, 2, 0, 2, 2, 5, 3);
        Due.compared("21 another KEY", x, 0, 3, 2, 2, 1);
        Made.tell(x, 1, 0, 1, 2, 0, 2, 2, 1, 3 + (1L << 32));
        Due.compared("21 another VALUE", x, 0, 3, 2, 2, 1);
        x.wipe();
        x.judge();
        Due.compared("21 none is JUDGED to be there", x, 0, 2, 0, 1, 0);
        Made.tell(x);
        Due.alike("21 none and none", x, 0);
    }

    private static void promise21Sets() {
        OnePassJudge x = Made.four();
        x.judge();
        Due.compared("21 nothing TOLD", x, 1, 1, -4, 1, 0);
        Made.tell(x, 4, 1, 4, 2, 1, 3, 2, 0, 2, 1, 0, 1);
        Due.alike("21 any order", x, 1);
        Made.tell(x, 4, 1, 4, 2, 0, 2, 1, 0, 1);
        Due.compared("21 one lacks", x, 1, 1, -4, 2, 1);
        Made.tell(x, 4, 1, 4, 2, 1, 3, 2, 0, 2, 1, 0, 1, 2, 0, 2);
        Due.compared("21 one too many", x, 1, 2, -4, 2, 0);
        Made.tell(x, 4, 1, 4, 2, 1, 9, 2, 0, 2, 1, 0, 1);
        Due.compared("21 another VALUE", x, 1, 3, -4, 2, 1);
        Made.tell(x, 4, 1, 4, 2, 1, 3, 2, 0, 2, 1, 5, 1);
        Due.compared("21 another KEY: the least lacks", x, 1, 1, -4, 1, 0);
        Made.tell(x, 4, 1, 4, 2, 1, 3, 2, 0, 2, 0, 5, 1);
        Due.compared("21 another TIME: the least is too many", x, 1, 2, -4, 0, 5);
        Made.tell(x, 4, 0, 4, 2, 1, 3, 2, 0, 2, 1, 0, 1);
        Due.compared("21 a lesser KEY is too many", x, 1, 2, -4, 4, 0);
        Made.tell(x, 4, 1, 4, 2, 1, 3, 2, 0, 2, 1, 0, 1, 4, 2, 0);
        Due.compared("21 one behind the last", x, 1, 2, -4, 4, 2);
        Made.tell(x, 4, 1, 8, 2, 1, 9);
        Due.compared("21 the least of many", x, 1, 1, -4, 1, 0);
        x.wipe();
        x.judge();
        Due.compared("21 none is JUDGED to be there", x, 1, 2, -4, 2, 1);
        Made.tell(x);
        Due.alike("21 none and none", x, 1);
    }

    private static void promise21SetsAsOften() {
        OnePassJudge x = new OnePassJudge();
        int[] values = {5, -5, 5, 7};
        for (int v : values) {
            x.row(0, 3, 3, v, false);
        }
        x.read(0);
        x.judge();
        Made.tell(x, 3, 3, 7, 3, 3, 5, 3, 3, -5, 3, 3, 5);
        Due.alike("21 each as often", x, 1);
        Made.tell(x, 3, 3, 7, 3, 3, 5, 3, 3, -5, 3, 3, 7);
        Due.compared("21 not as often", x, 1, 3, -4, 3, 3);
        Made.tell(x, 3, 3, 7, 3, 3, 5, 3, 3, -5);
        Due.compared("21 fewer", x, 1, 1, -4, 3, 3);
        Made.tell(x, 3, 3, 7, 3, 3, 8, 3, 3, 9);
        Due.compared("21 fewer, and others", x, 1, 1, -4, 3, 3);
        Made.tell(x, 3, 3, 7, 3, 3, 5, 3, 3, -5, 3, 3, 5, 3, 3, 5);
        Due.compared("21 more", x, 1, 2, -4, 3, 3);
        Made.tell(x, 3, 3, 1, 3, 3, 1, 3, 3, 1, 3, 3, 1, 3, 3, 1);
        Due.compared("21 more, and others", x, 1, 2, -4, 3, 3);
        Made.tell(x, 3, 3, 7, 3, 3, 5 + (1L << 32), 3, 3, -5, 3, 3, 5);
        Due.compared("21 another long", x, 1, 3, -4, 3, 3);
    }

    private static void promise21TellsAndJudgesApart() {
        OnePassJudge x = Made.four();
        Made.tell(x, 1, 0, 1, 2, 0, 2, 2, 1, 3, 4, 1, 4);
        x.first(0, 1);
        x.judge();
        Due.alike("21 TOLD before it was JUDGED", x, 0);
        Due.is("21 of another", x.compare(1, 0), 1);
        Due.is("21 the VALUES of rows stay as they were", x.value(0, 3), 4);
        Made.tell(x, 4, 1, 4, 2, 1, 3, 2, 0, 2, 1, 0, 1);
        Due.alike("21 SETS", x, 1);
        Due.compared("21 SETS leave the order of what is TOLD", x, 0, 3, 0, 1, 0);
        Due.rows("21 and of what is JUDGED", x, 0, 1, 0, 1, 2, 0, 2, 2, 1, 3, 4, 1, 4);
    }

    private static void promise22Where() {
        OnePassJudge x = Made.four();
        for (int bad : new int[] {-1, 3, LEAST, MOST}) {
            Due.is("22 where(" + bad + ")", x.where(bad), BAD);
        }
        for (int what = 0; what < 3; what++) {
            Due.is("22 nothing is JUDGED", x.where(what), NONE);
        }
        x.judge();
        for (int what = 0; what < 3; what++) {
            Due.is("22 none since judge()", x.where(what), NONE);
        }
        x.compare(0, 0);
        Due.is("22 where(0)", x.where(0), 0);
        Due.is("22 where(3)", x.where(3), BAD);
        x.judge();
        Due.is("22 none since judge()", x.where(1), NONE);
        x.compare(0, 1);
        Due.is("22 SETS have no place", x.where(0), -4);
        Due.is("22 where(1)", x.where(1), 1);
        x.read(2);
        Due.is("22 nothing is JUDGED", x.where(1), NONE);
        x.judge();
        Due.is("22 none since judge()", x.where(1), NONE);
        Due.is("22 alike", x.compare(1, 0), 0);
        Due.is("22 none", x.where(1), NONE);
        Due.is("22 compare", x.compare(0, 0), 1);
        Due.is("22 alike", x.compare(1, 1), 0);
        Due.is("22 the latest was 0", x.where(1), NONE);
        Due.is("22 compare", x.compare(0, 0), 1);
        Due.is("22 where(1)", x.where(1), 1);
        x.clear();
        Due.is("22 nothing is JUDGED", x.where(1), NONE);
    }

    private static void promise22WhereStays() {
        OnePassJudge x = Made.four();
        x.judge();
        Made.tell(x, 1, 0, 1, 2, 0, 2);
        x.compare(0, 0);
        x.compare(0, 2);
        x.compare(1, 0);
        x.compare(-1, 1);
        Due.is("22 behind a refused compare()", x.where(0), 2);
        x.tell(0, 2, 1, 3);
        x.untell(0);
        x.wipe();
        x.item(0, 1);
        x.row(0, 0, 0, 0, true);
        x.late(0, false);
        Due.is("22 whatever is told behind that", x.where(0), 2);
        Due.is("22 whatever is told behind that", x.where(1), 2);
        Due.is("22 whatever is told behind that", x.where(2), 1);
        OnePassJudge y = undone();
        y.judge();
        y.compare(0, 0);
        Due.is("22 UNDONE", y.compare(2, 0), UNDONE);
        Due.is("22 behind an UNDONE compare()", y.where(1), 0);
    }

    private static void promise23Count() {
        OnePassJudge x = Made.four();
        for (int bad : new int[] {-1, 3, LEAST, MOST}) {
            Due.is("23 count(" + bad + ")", x.count(bad), BAD);
        }
        Due.is("23 count(0)", x.count(0), 4);
        Due.is("23 count(1)", x.count(1), 1);
        x.each(0, 0, 2, 0);
        Due.is("23 count(1)", x.count(1), 2);
        Due.is("23 count(2)", x.count(2), 0);
        x.judge();
        Due.is("23 count(2)", x.count(2), 4);
        x.late(0, true);
        x.judge();
        Due.is("23 count(2)", x.count(2), 7);
        Due.is("23 LATE rows are ROWS", x.count(0), 4);
        x.drop();
        x.wipe();
        Due.is("23 count(0)", x.count(0), 0);
        Due.is("23 count(1)", x.count(1), 1);
        Due.is("23 count(2)", x.count(2), 7);
    }

    private static void promise24Clear() {
        OnePassJudge x = Made.four();
        x.item(0, 9);
        x.item(7, 9);
        x.each(0, 0, 2, 0);
        x.tell(0, 1, 0, 1);
        x.tell(1, 1, 0, 1);
        x.judge();
        x.compare(0, 0);
        Due.is("24 clear()", x.clear(), 2);
        Due.is("24 count(0)", x.count(0), 0);
        Due.is("24 count(1)", x.count(1), 0);
        Due.is("24 count(2)", x.count(2), 4);
        Due.is("24 rows(0)", x.rows(0), BAD);
        Due.is("24 judge()", x.judge(), STATE);
        Due.is("24 where(0)", x.where(0), NONE);
        Due.is("24 item(0)", x.item(0, 0), 0);
        Due.is("24 item(7)", x.item(7, 0), 0);
        Due.is("24 clear()", x.clear(), 0);
        Due.is("24 read(0)", x.read(0), 0);
        Due.is("24 first", x.first(0, 1), 1);
        Due.is("24 rows(0)", x.rows(0), STATE);
        Due.is("24 untell(0)", x.untell(0), 0);
        Due.is("24 untell(1)", x.untell(1), 0);
        Due.is("24 row", x.row(0, 0, 0, 0, false), 0);
        Due.is("24 judge()", x.judge(), 2);
        Due.rows("24", x, 1, 0, 0, 0);
        Due.is("24 count(2)", x.count(2), 4);
    }
}

/** Promises 1 to 5: a new object, row, late, item, wipe. */
public final class RowsTest {
    private static final int BAD = OnePassJudge.BAD;
    private static final int FULL = OnePassJudge.FULL;
    private static final int STATE = OnePassJudge.STATE;
    private static final int NONE = OnePassJudge.NONE;
    private static final int LEAST = Integer.MIN_VALUE;
    private static final int MOST = Integer.MAX_VALUE;

    public static void main(String[] args) {
        promise1NewObject();
        promise2RowRefusals();
        promise2RowNumbersAndFull();
        promise3Late();
        promise4Item();
        promise5Wipe();
        promise5WipeLeavesTheRest();
        Due.end();
    }

    private static void promise1NewObject() {
        OnePassJudge x = new OnePassJudge();
        Due.is("1 count(0)", x.count(0), 0);
        Due.is("1 count(1)", x.count(1), 0);
        Due.is("1 count(2)", x.count(2), 0);
        Due.is("1 judge()", x.judge(), STATE);
        Due.is("1 drop()", x.drop(), STATE);
        Due.is("1 where(0)", x.where(0), NONE);
        Due.is("1 wipe()", x.wipe(), 0);
        Due.is("1 clear()", x.clear(), 0);
        for (int i = 0; i < 8; i++) {
            Due.is("1 item", x.item(i, i + 1), 0);
        }
        OnePassJudge y = new OnePassJudge();
        Due.is("1 another object has a table of its own", y.item(3, 0), 0);
    }

    private static void promise2RowRefusals() {
        OnePassJudge x = new OnePassJudge();
        int[] badSources = {-1, 3, LEAST, MOST};
        int[] badTimes = {-1, 1000, LEAST, MOST};
        int[] badKeys = {-1, 6, LEAST, MOST};
        int[] badValues = {-1_000_001, 1_000_001, LEAST, MOST};
        for (int i = 0; i < 4; i++) {
            Due.is("2 row source " + badSources[i], x.row(badSources[i], 0, 0, 0, false), BAD);
            Due.is("2 row time " + badTimes[i], x.row(0, badTimes[i], 0, 0, false), BAD);
            Due.is("2 row key " + badKeys[i], x.row(0, 0, badKeys[i], 0, false), BAD);
            Due.is("2 row value " + badValues[i], x.row(0, 0, 0, badValues[i], true), BAD);
        }
        Due.is("2 count(0)", x.count(0), 0);
        Due.is("2 row least", x.row(0, 0, 0, -1_000_000, false), 0);
        Due.is("2 row most", x.row(2, 999, 5, 1_000_000, false), 1);
        x.read(0);
        x.read(2);
        Due.is("2 judge()", x.judge(), 2);
        Due.rows("2", x, 0, 0, 0, -1_000_000);
        Due.rows("2", x, 1, 999, 5, 1_000_000);
    }

    private static void promise2RowNumbersAndFull() {
        OnePassJudge x = new OnePassJudge();
        for (int i = 0; i < 60; i++) {
            Due.is("2 row " + i, x.row(i % 3, 999 - i, i % 6, i, i % 2 == 0), i);
        }
        Due.is("2 row 60", x.row(0, 0, 0, 0, false), FULL);
        Due.is("2 row BAD before FULL", x.row(0, 0, 6, 0, false), BAD);
        Due.is("2 count(0)", x.count(0), 60);
        Due.is("2 late(59)", x.late(59, false), 0);
        Due.is("2 late(60)", x.late(60, false), BAD);
    }

    private static void promise3Late() {
        OnePassJudge x = new OnePassJudge();
        Due.is("3 late(0)", x.late(0, true), BAD);
        x.row(0, 5, 1, 10, true);
        x.row(1, 6, 2, 20, false);
        x.row(0, 7, 3, 30, false);
        Due.is("3 late(-1)", x.late(-1, true), BAD);
        Due.is("3 late(3)", x.late(3, true), BAD);
        Due.is("3 late(least)", x.late(LEAST, true), BAD);
        Due.is("3 late(most)", x.late(MOST, true), BAD);
        x.read(0);
        x.judge();
        Due.rows("3 a LATE row is not read", x, 0, 7, 3, 30);
        Due.is("3 late(0, true)", x.late(0, true), 1);
        Due.is("3 late(0, false)", x.late(0, false), 1);
        Due.is("3 late(0, false)", x.late(0, false), 0);
        Due.is("3 late(2, true)", x.late(2, true), 0);
        Due.is("3 late(2, true)", x.late(2, true), 1);
        Due.rows("3 what is JUDGED stays", x, 0, 7, 3, 30);
        x.judge();
        Due.rows("3 judged again", x, 0, 5, 1, 10);
    }

    private static void promise4Item() {
        OnePassJudge x = new OnePassJudge();
        Due.is("4 item(-1)", x.item(-1, 0), BAD);
        Due.is("4 item(8)", x.item(8, 0), BAD);
        Due.is("4 item(least)", x.item(LEAST, 0), BAD);
        Due.is("4 item(most)", x.item(MOST, 0), BAD);
        Due.is("4 item(0)", x.item(0, LEAST), 0);
        Due.is("4 item(0)", x.item(0, MOST), LEAST);
        Due.is("4 item(0)", x.item(0, 1), MOST);
        Due.is("4 item(7)", x.item(7, -9), 0);
        Due.is("4 item(7)", x.item(7, 0), -9);
        x.row(0, 1, 0, 7, false);
        x.item(7, 70);
        x.read(0);
        x.each(0, 0, 4, 0);
        x.judge();
        x.item(7, 71);
        Due.rows("4 what is JUDGED stays", x, 1, 1, 0, 70);
        x.judge();
        Due.rows("4 judged again", x, 1, 1, 0, 71);
    }

    private static void promise5Wipe() {
        OnePassJudge x = new OnePassJudge();
        x.row(0, 5, 1, 10, false);
        x.row(0, 4, 1, 11, false);
        x.row(1, 3, 1, 12, true);
        Due.is("5 wipe()", x.wipe(), 3);
        Due.is("5 wipe()", x.wipe(), 0);
        Due.is("5 count(0)", x.count(0), 0);
        Due.is("5 late(0)", x.late(0, true), BAD);
        Due.is("5 row", x.row(1, 9, 2, 13, false), 0);
        Due.is("5 late(0): LATE of an earlier row is gone", x.late(0, false), 0);
    }

    private static void promise5WipeLeavesTheRest() {
        OnePassJudge x = new OnePassJudge();
        x.item(2, 22);
        x.row(0, 5, 1, 10, false);
        x.read(0);
        x.tell(0, 5, 1, 10);
        x.judge();
        x.wipe();
        Due.rows("5 what is JUDGED stays", x, 0, 5, 1, 10);
        Due.is("5 compare", x.compare(0, 0), 0);
        Due.is("5 count(1)", x.count(1), 1);
        Due.is("5 item(2)", x.item(2, 0), 22);
        Due.is("5 judge()", x.judge(), 1);
        Due.rows("5 judged without rows", x, 0);
        Due.is("5 untell(0)", x.untell(0), 1);
    }
}

/** Judges that many tests begin with. */
final class Made {
    private Made() {
    }

    /** One with the rows (source, time, key, value), .. */
    static OnePassJudge with(int... rows) {
        OnePassJudge x = new OnePassJudge();
        for (int i = 0; i + 3 < rows.length; i += 4) {
            Due.is("row", x.row(rows[i], rows[i + 1], rows[i + 2], rows[i + 3], false), i / 4);
        }
        return x;
    }

    /** READ 0 of the rows (1, 0, 1), (2, 0, 2), (2, 1, 3), (4, 1, 4), (time, key, value). */
    static OnePassJudge four() {
        OnePassJudge x = with(0, 1, 0, 1, 0, 2, 0, 2, 0, 2, 1, 3, 0, 4, 1, 4);
        Due.is("read(0)", x.read(0), 0);
        return x;
    }

    static OnePassJudge judgedFour() {
        OnePassJudge x = four();
        Due.is("judge()", x.judge(), 1);
        return x;
    }

    /** What is TOLD of OPERATOR 0 is (time, key, value), .. then. */
    static void tell(OnePassJudge x, long... rows) {
        x.untell(0);
        for (int i = 0; i + 2 < rows.length; i += 3) {
            Due.is("tell", x.tell(0, (int) rows[i], (int) rows[i + 1], rows[i + 2]), i / 3 + 1);
        }
    }

    /** Puts n rows of one SOURCE, TIME and KEY behind those that are there, of the VALUES 0, 1, .. */
    static void addAlike(OnePassJudge x, int n, int source, int time, int key) {
        int before = x.count(0);
        for (int i = 0; i < n; i++) {
            Due.is("row", x.row(source, time, key, i, false), before + i);
        }
    }

    /**
     * One whose OPERATOR 3 gives, at the TIMES 0, 1, .. with KEY 0, the longs that have these upper halves and 0 below;
     * 8 at most, for they come out of THE TABLE.
     */
    static OnePassJudge withLongs(int... uppers) {
        OnePassJudge x = new OnePassJudge();
        for (int i = 0; i < uppers.length; i++) {
            x.item(i, uppers[i]);
            x.row(0, i, 0, i, false);
        }
        Due.is("READ", x.read(0), 0);
        Due.is("MAP to the ITEM", x.each(0, 0, 4, 0), 1);
        Due.is("MAP 16 bits up", x.each(0, 1, 1, 1 << 16), 2);
        Due.is("MAP 16 bits up", x.each(0, 2, 1, 1 << 16), 3);
        return x;
    }
}

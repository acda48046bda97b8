/** What several tests need: tables from written-out numbers, and the refusals counted. */
final class Bench {
    static final int MISSING = WellTables.MISSING;
    static final int BEYOND = WellTables.BEYOND;
    static final int BELOW = WellTables.BELOW;
    static final int KIND = WellTables.KIND;
    static final int COPY = WellTables.COPY;
    static final int NO = WellTables.NO;
    static final int FULL = WellTables.FULL;
    static final int NONE = WellTables.NONE;
    static final int MIN = Integer.MIN_VALUE;
    static final int MAX = Integer.MAX_VALUE;
    /** More TABLES than there may be: a class that never tells FULL has to fail a test, not to hang it. */
    private static final int MANY = 20;

    private Bench() {
    }

    static int table(WellTables x, int[]... rows) {
        int table = x.table(rows.length, rows[0].length);
        for (int i = 0; i < rows.length; i++) {
            for (int j = 0; j < rows[i].length; j++) {
                x.set(table, i, j, rows[i][j]);
            }
        }
        return table;
    }

    static void holdsNumbers(WellTables x, int table, int[]... rows) {
        Check.same("rows of " + table, rows.length, x.look(table, 1));
        Check.same("columns of " + table, rows[0].length, x.look(table, 2));
        for (int i = 0; i < rows.length; i++) {
            for (int j = 0; j < rows[i].length; j++) {
                Check.same("at(" + table + ", " + i + ", " + j + ")", rows[i][j], x.at(table, i, j));
            }
        }
    }

    static int[] row(int... numbers) {
        return numbers;
    }

    static void tellRow(WellTables x, int... numbers) {
        for (int k = 0; k < numbers.length; k++) {
            x.tell(k, numbers[k]);
        }
    }

    static void holdsRow(WellTables x, int... numbers) {
        for (int k = 0; k < 16; k++) {
            Check.same("row(" + k + ")", k < numbers.length ? numbers[k] : 0, x.row(k));
        }
    }

    /** Checks that just so many calls were refused by each answer, from MISSING to FULL. */
    static void refusals(WellTables x, int missing, int beyond, int below, int kind, int copy, int no, int full) {
        int[] due = {missing, beyond, below, kind, copy, no, full};
        for (int k = 0; k < due.length; k++) {
            Check.same("status(" + (-2 - k) + ")", due[k], x.status(-2 - k));
        }
    }

    static int tables(WellTables x) {
        int many = 0;
        while (many < MANY && x.look(many, 0) != BEYOND) {
            many++;
        }
        return many;
    }

    static void fillTables(WellTables x) {
        boolean isFull = false;
        for (int k = 0; k < MANY && !isFull; k++) {
            isFull = x.table(1, 1) == FULL;
        }
        Check.holds("there is no end of TABLES", isFull);
    }
}

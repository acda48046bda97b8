/** Promises 28 to 32. */
final class RowTests {
    private RowTests() {
    }

    static void all() {
        Check.test("28: lay", RowTests::lay);
        Check.test("28: lay, wrong", RowTests::layWrong);
        Check.test("29: tear", RowTests::tear);
        Check.test("30: row", RowTests::row);
        Check.test("31: copy", RowTests::copy);
        Check.test("31: copy, wrong", RowTests::copyWrong);
        Check.test("32: status", RowTests::status);
        Check.test("32: status, every call that tells 0", RowTests::statusOfNought);
        Check.test("32: status, answers that only look like refusals", RowTests::statusOfNumbers);
    }

    private static void lay() {
        WellTables x = new WellTables();
        int t = Bench.table(x, Bench.row(1, -2, 3), Bench.row(4, 5, 6));
        Check.same("lay", 3, x.lay(t, 0));
        Check.same("there now", 1, x.tear());
        Check.same("lay", 3, x.lay(t, 1));
        Bench.holdsRow(x, 4, 5, 6);
        x.tell(1, 9);
        x.tell(3, 9);
        x.tell(15, 9);
        Check.same("the TABLE stays", 5, x.at(t, 1, 1));
        Check.same("lay", 3, x.lay(t, 0));
        Bench.holdsRow(x, 1, -2, 3);
        int one = x.table(5, 1);
        Check.same("lay", 1, x.lay(one, 4));
        Bench.holdsRow(x, 0);
        int wide = Bench.table(x, Bench.row(1, 2, 3, 4, 5));
        Check.same("lay", 5, x.lay(wide, 0));
        Bench.holdsRow(x, 1, 2, 3, 4, 5);
    }

    private static void layWrong() {
        WellTables x = new WellTables();
        int t = x.table(2, 3);
        int[][] beyond = {{-1, 0}, {1, 0}, {t, -1}, {t, 2}, {Bench.MAX, 0}, {t, Bench.MAX}, {t, Bench.MIN}};
        for (int[] b : beyond) {
            Check.same("lay beyond", Bench.BEYOND, x.lay(b[0], b[1]));
        }
        Check.same("THE ROW is missing still", 0, x.tear());
        x.tell(4, 7);
        Check.same("lay beyond", Bench.BEYOND, x.lay(t, 2));
        Bench.holdsRow(x, 0, 0, 0, 0, 7);
        Bench.refusals(x, 0, 8, 0, 0, 0, 0, 0);
    }

    private static void tear() {
        WellTables x = new WellTables();
        Check.same("at first", 0, x.tear());
        x.tell(0, 0);
        Check.same("there", 1, x.tear());
        Check.same("torn", 0, x.tear());
        Check.same("row", 0, x.row(0));
        Check.same("MISSING", Bench.MISSING, x.copy(0, 0, 0));
        Check.same("MISSING", Bench.MISSING, x.band(1, 1));
        x.table(1, 1);
        Check.same("MISSING", Bench.MISSING, x.changes(0));
        Bench.refusals(x, 4, 0, 0, 0, 0, 0, 0);
    }

    private static void row() {
        WellTables x = new WellTables();
        Check.same("MISSING", 0, x.row(0));
        Check.same("MISSING is first", 0, x.row(16));
        Bench.refusals(x, 2, 0, 0, 0, 0, 0, 0);
        x.tell(0, 5);
        x.tell(15, -2);
        Check.same("row", 5, x.row(0));
        Check.same("row", 0, x.row(7));
        Check.same("row", -2, x.row(15));
        int[] beyond = {-1, 16, Bench.MIN, Bench.MAX};
        for (int i : beyond) {
            Check.same("row(" + i + ")", 0, x.row(i));
        }
        Bench.refusals(x, 2, 4, 0, 0, 0, 0, 0);
    }

    private static void copy() {
        WellTables x = new WellTables();
        Bench.tellRow(x, 1, 2, 3, 4, 5, 6);
        Check.same("up", 4, x.copy(0, 2, 4));
        Bench.holdsRow(x, 1, 2, 1, 2, 3, 4);
        Check.same("down", 4, x.copy(2, 1, 4));
        Bench.holdsRow(x, 1, 1, 2, 3, 4, 4);
        Check.same("apart", 2, x.copy(1, 14, 2));
        Bench.holdsRow(x, 1, 1, 2, 3, 4, 4, 0, 0, 0, 0, 0, 0, 0, 0, 1, 2);
        Check.same("none", 0, x.copy(16, 16, 0));
        Check.same("none", 0, x.copy(0, 16, 0));
        Check.same("all", 16, x.copy(0, 0, 16));
        Bench.holdsRow(x, 1, 1, 2, 3, 4, 4, 0, 0, 0, 0, 0, 0, 0, 0, 1, 2);
        Check.same("fifteen", 15, x.copy(1, 0, 15));
        Bench.holdsRow(x, 1, 2, 3, 4, 4, 0, 0, 0, 0, 0, 0, 0, 0, 1, 2, 2);
        Bench.refusals(x, 0, 0, 0, 0, 0, 0, 0);
    }

    private static void copyWrong() {
        WellTables x = new WellTables();
        Check.same("MISSING is first", Bench.MISSING, x.copy(-1, 0, -1));
        Bench.tellRow(x, 1, 2, 3);
        Check.same("BELOW", Bench.BELOW, x.copy(0, 0, -1));
        Check.same("BELOW is ahead of COPY", Bench.BELOW, x.copy(-1, 17, Bench.MIN));
        int[][] wrong = {{-1, 0, 1}, {0, -1, 1}, {-1, 0, 0}, {0, -1, 0}, {16, 0, 1}, {0, 16, 1}, {17, 0, 0}, {0, 17, 0},
            {0, 0, 17}, {1, 0, 16}, {0, 1, 16}, {Bench.MAX, 0, 1}, {0, Bench.MAX, 1}, {1, 0, Bench.MAX},
            {0, 1, Bench.MAX}, {Bench.MAX, Bench.MAX, Bench.MAX}, {Bench.MIN, 0, 1}, {0, Bench.MIN, 1}};
        for (int[] w : wrong) {
            Check.same("copy(" + w[0] + ", " + w[1] + ", " + w[2] + ")", Bench.COPY, x.copy(w[0], w[1], w[2]));
        }
        Bench.holdsRow(x, 1, 2, 3);
        Bench.refusals(x, 1, 0, 2, 0, wrong.length, 0, 0);
    }

    private static void status() {
        WellTables x = new WellTables();
        int[] wrong = {-1, -9, 0, 1, 2, Bench.MIN, Bench.MAX};
        for (int by : wrong) {
            Check.same("status(" + by + ")", Bench.NO, x.status(by));
        }
        Bench.refusals(x, 0, 0, 0, 0, 0, wrong.length, 0);
        x.tell(0, 1);
        x.copy(0, 0, -1);
        x.copy(0, 0, 17);
        x.copy(0, 0, 18);
        x.net(1);
        x.made(0);
        x.set(0, 0, 0, 0);
        x.back(0);
        x.back(0);
        x.back(7);
        Bench.fillTables(x);
        Bench.refusals(x, 2, 1, 1, 1, 2, wrong.length, 1);
        Bench.refusals(x, 2, 1, 1, 1, 2, wrong.length, 1);
    }

    private static void statusOfNought() {
        WellTables x = new WellTables();
        x.set(0, 0, 0, 0);
        x.at(0, 0, 0);
        x.worth(0, 1, 1);
        x.weight(0, 1, 1);
        x.making(0, 0);
        x.row(0);
        x.tell(0, 0);
        x.row(16);
        Bench.refusals(x, 1, 6, 0, 0, 0, 0, 0);
        x.table(2, 2);
        x.net(2);
        x.set(0, 0, 0, 1001);
        x.worth(0, 3, 1);
        x.weight(0, 3, 1);
        x.set(x.turn(0, 0), 0, 0, 0);
        x.set(0, 0, 0, 1);
        x.set(0, 1, 1, 1);
        x.make(0);
        x.making(0, 4);
        Bench.refusals(x, 1, 6, 0, 1, 0, 4, 0);
    }

    private static void statusOfNumbers() {
        WellTables x = new WellTables();
        x.table(1, 1);
        for (int v = -8; v <= -1; v++) {
            x.set(0, 0, 0, v);
            x.at(0, 0, 0);
            x.worth(0, 1, 1);
            x.tell(0, v);
            x.row(0);
        }
        x.low(0, false);
        x.low(0, true);
        x.set(0, 0, 0, 1);
        Check.same("NONE", Bench.NONE, x.low(0, true));
        Bench.refusals(x, 0, 0, 0, 0, 0, 0, 0);
    }
}

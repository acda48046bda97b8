/** Promises 1 to 14. */
final class TableTests {
    private TableTests() {
    }

    static void all() {
        Check.test("1: a new object", TableTests::newObject);
        Check.test("2: table", TableTests::table);
        Check.test("2: table, wrong", TableTests::tableWrong);
        Check.test("3: set", TableTests::set);
        Check.test("3: set, wrong", TableTests::setWrong);
        Check.test("4: at", TableTests::at);
        Check.test("5: look", TableTests::look);
        Check.test("5: look, WELL and STRICT", TableTests::lookWell);
        Check.test("5: look, LOOKS", TableTests::lookLooks);
        Check.test("5: look, wrong", TableTests::lookWrong);
        Check.test("6: drop", TableTests::drop);
        Check.test("7: worth", TableTests::worth);
        Check.test("7: worth, the greatest", TableTests::worthGreatest);
        Check.test("7: worth, wrong", TableTests::worthWrong);
        Check.test("8: low", TableTests::low);
        Check.test("8: low, the order", TableTests::lowOrder);
        Check.test("9: count", TableTests::count);
        Check.test("10: product", TableTests::product);
        Check.test("10: product, wrong", TableTests::productWrong);
        Check.test("11: sum", TableTests::sum);
        Check.test("11: sum, wrong", TableTests::sumWrong);
        Check.test("12: part", TableTests::part);
        Check.test("12: part, wrong", TableTests::partWrong);
        Check.test("13: turn", TableTests::turn);
        Check.test("13: turn, wrong", TableTests::turnWrong);
        Check.test("14: same", TableTests::same);
    }

    private static void newObject() {
        WellTables x = new WellTables();
        Bench.refusals(x, 0, 0, 0, 0, 0, 0, 0);
        Check.same("drop()", Bench.MISSING, x.drop());
        Check.same("unnet()", Bench.MISSING, x.unnet());
        Check.same("look(0, 0)", Bench.BEYOND, x.look(0, 0));
        Check.same("back(0)", Bench.BEYOND, x.back(0));
        Check.same("tear()", 0, x.tear());
        Check.same("making(0, 0)", 0, x.making(0, 0));
        Check.same("the first table", 0, x.table(1, 1));
        Check.same("the first net", 0, x.net(1));
        Bench.refusals(x, 2, 3, 0, 0, 0, 0, 0);
        Check.same("another object's tables", Bench.MISSING, new WellTables().drop());
    }

    private static void table() {
        WellTables x = new WellTables();
        for (int k = 0; k < 12; k++) {
            int n = k % 5 + 1;
            int m = k * 2 % 5 + 1;
            Check.same("table(" + n + ", " + m + ")", k, x.table(n, m));
            Check.same("kind", 0, x.look(k, 0));
            Bench.holdsNumbers(x, k, new int[n][m]);
        }
        Check.same("the thirteenth", Bench.FULL, x.table(1, 1));
        Check.same("of several NO is first", Bench.NO, x.table(6, 1));
        Check.same("drop()", 11, x.drop());
        Check.same("room again", 11, x.table(5, 5));
        Bench.holdsNumbers(x, 11, new int[5][5]);
        Bench.refusals(x, 0, 0, 0, 0, 0, 1, 1);
    }

    private static void tableWrong() {
        WellTables x = new WellTables();
        int[] wrong = {0, 6, -1, Bench.MIN, Bench.MAX};
        for (int n : wrong) {
            Check.same("table(" + n + ", 1)", Bench.NO, x.table(n, 1));
            Check.same("table(1, " + n + ")", Bench.NO, x.table(1, n));
        }
        Check.same("none came", Bench.MISSING, x.drop());
        Bench.refusals(x, 1, 0, 0, 0, 0, 10, 0);
        int old = Bench.table(x, Bench.row(7, 8), Bench.row(9, 10));
        x.drop();
        Check.same("the same number", old, x.table(3, 3));
        Bench.holdsNumbers(x, old, new int[3][3]);
    }

    private static void set() {
        WellTables x = new WellTables();
        x.table(2, 3);
        x.table(2, 3);
        Check.same("set", 0, x.set(1, 1, 2, 1000));
        Check.same("set again", 1000, x.set(1, 1, 2, -1000));
        Check.same("and again", -1000, x.set(1, 1, 2, -7));
        Check.same("its before is no refusal", -7, x.set(1, 1, 2, 5));
        Check.same("first place", 0, x.set(1, 0, 0, 4));
        Bench.holdsNumbers(x, 1, Bench.row(4, 0, 0), Bench.row(0, 0, 5));
        Bench.holdsNumbers(x, 0, new int[2][3]);
        Bench.refusals(x, 0, 0, 0, 0, 0, 0, 0);
    }

    private static void setWrong() {
        WellTables x = new WellTables();
        int t = Bench.table(x, Bench.row(1, 2, 3), Bench.row(4, 5, 6));
        int made = x.turn(t, 0);
        int[][] beyond = {{-1, 0, 0}, {2, 0, 0}, {Bench.MAX, 0, 0}, {Bench.MIN, 0, 0}, {t, -1, 0}, {t, 2, 0},
            {t, 0, -1}, {t, 0, 3}, {t, Bench.MAX, 0}, {t, 0, Bench.MIN}, {made, 3, 0}, {made, 0, 2}};
        for (int[] b : beyond) {
            Check.same("set beyond", 0, x.set(b[0], b[1], b[2], 9));
        }
        Bench.refusals(x, 0, 12, 0, 0, 0, 0, 0);
        Check.same("set of a MADE one", 0, x.set(made, 0, 0, 9));
        Check.same("KIND is ahead of NO", 0, x.set(made, 0, 0, 1001));
        Check.same("BEYOND is ahead of KIND", 0, x.set(made, 3, 0, 1001));
        Bench.refusals(x, 0, 13, 0, 2, 0, 0, 0);
        int[] wrong = {1001, -1001, Bench.MAX, Bench.MIN};
        for (int v : wrong) {
            Check.same("set NO", 0, x.set(t, 0, 0, v));
        }
        Check.same("BEYOND is ahead of NO", 0, x.set(t, 2, 0, 1001));
        Bench.refusals(x, 0, 14, 0, 2, 0, 4, 0);
        Bench.holdsNumbers(x, t, Bench.row(1, 2, 3), Bench.row(4, 5, 6));
        Bench.holdsNumbers(x, made, Bench.row(1, 4), Bench.row(2, 5), Bench.row(3, 6));
        x.net(1);
        int ofNet = x.made(0);
        x.tell(0, 3);
        int ofRow = x.band(1, 1);
        Check.same("set of a NET's", 0, x.set(ofNet, 0, 0, 9));
        Check.same("set of a BAND", 0, x.set(ofRow, 0, 0, 9));
        Check.same("NET's stays", 1, x.at(ofNet, 0, 0));
        Check.same("BAND stays", 3, x.at(ofRow, 0, 0));
        Bench.refusals(x, 0, 14, 0, 4, 0, 4, 0);
    }

    private static void at() {
        WellTables x = new WellTables();
        int t = Bench.table(x, Bench.row(1, -2, 3, 4, 5), Bench.row(6, 7, 8, 9, 10));
        Check.same("at", -2, x.at(t, 0, 1));
        Check.same("at the end", 10, x.at(t, 1, 4));
        Bench.refusals(x, 0, 0, 0, 0, 0, 0, 0);
        int[][] beyond = {{-1, 0, 0}, {1, 0, 0}, {12, 0, 0}, {Bench.MAX, 0, 0}, {t, 2, 0}, {t, -1, 1}, {t, 1, -1},
            {t, 0, 5}, {t, Bench.MAX, Bench.MAX}, {t, Bench.MIN, Bench.MIN}};
        for (int[] b : beyond) {
            Check.same("at beyond", 0, x.at(b[0], b[1], b[2]));
        }
        Bench.refusals(x, 0, 10, 0, 0, 0, 0, 0);
        x.drop();
        Check.same("of one dropped", 0, x.at(t, 0, 1));
        Bench.refusals(x, 0, 11, 0, 0, 0, 0, 0);
    }

    private static void look() {
        WellTables x = new WellTables();
        x.table(2, 5);
        x.net(2);
        x.net(3);
        x.made(1);
        x.made(0);
        x.tell(0, 1);
        x.band(4, 1);
        x.turn(0, 1);
        x.sum(0, 0);
        x.product(1, 1);
        x.part(0, 1, 1);
        int[] kinds = {0, 1, 1, 2, 3, 3, 3, 3};
        int[] rows = {2, 3, 2, 4, 2, 2, 3, 1};
        int[] columns = {5, 3, 2, 4, 5, 5, 3, 1};
        for (int t = 0; t < kinds.length; t++) {
            Check.same("kind of " + t, kinds[t], x.look(t, 0));
            Check.same("rows of " + t, rows[t], x.look(t, 1));
            Check.same("columns of " + t, columns[t], x.look(t, 2));
        }
        Check.same("its NET", 1, x.look(1, 7));
        Check.same("its NET", 0, x.look(2, 7));
        x.unnet();
        x.unnet();
        Check.same("the NET that it had", 1, x.look(1, 7));
        Bench.refusals(x, 0, 0, 0, 0, 0, 0, 0);
    }

    private static void lookWell() {
        WellTables x = new WellTables();
        int strict = Bench.table(x, Bench.row(1, 1, 1), Bench.row(1, 2, 4), Bench.row(1, 3, 9));
        int well = Bench.table(x, Bench.row(1, 0), Bench.row(0, 1));
        int not = Bench.table(x, Bench.row(1, 2), Bench.row(2, 1));
        int noughts = x.table(5, 5);
        int below = Bench.table(x, Bench.row(3, -1));
        int one = Bench.table(x, Bench.row(3, 1));
        int inside = Bench.table(x, Bench.row(0, 0, 0), Bench.row(0, 1, 1), Bench.row(0, 2, 1));
        int[] tables = {strict, well, not, noughts, below, one, inside};
        int[] isWell = {1, 1, 0, 1, 0, 1, 0};
        int[] isStrict = {1, 0, 0, 0, 0, 1, 0};
        for (int k = 0; k < tables.length; k++) {
            Check.same("WELL " + k, isWell[k], x.look(tables[k], 3));
            Check.same("STRICT " + k, isStrict[k], x.look(tables[k], 4));
        }
        // All numbers and pairs are above 0; only the three by three is not.
        int last = Bench.table(x, Bench.row(1, 1, 1), Bench.row(1, 2, 3), Bench.row(1, 3, 5));
        Check.same("WELL, last 0", 1, x.look(last, 3));
        Check.same("STRICT, last 0", 0, x.look(last, 4));
        x.set(last, 2, 2, 4);
        Check.same("WELL, last below 0", 0, x.look(last, 3));
    }

    private static void lookLooks() {
        WellTables x = new WellTables();
        for (int n = 1; n <= 3; n++) {
            for (int m = 1; m <= 4; m++) {
                int t = x.table(n, m);
                Check.same("LOOKS of " + n + " by " + m, n * m, x.look(t, 5));
                Check.same("LOOKS above 0 of noughts", 0, x.look(t, 6));
            }
        }
        x.drop();
        int five = x.table(5, 5);
        Check.same("LOOKS of 5 by 5", 25, x.look(five, 5));
        x.drop();
        // Above 0: the numbers 1, 2 of row 0, 3 of column 0, and the whole's WORTH is 1 * -4 - 2 * 3.
        int mixed = Bench.table(x, Bench.row(1, 2), Bench.row(3, -4));
        Check.same("above 0", 3, x.look(mixed, 6));
        x.set(mixed, 1, 1, 7);
        Check.same("and the whole", 4, x.look(mixed, 6));
        x.drop();
        // Only the lower right number is above 0, and it is no LOOK.
        int corner = Bench.table(x, Bench.row(0, 0), Bench.row(0, 1));
        Check.same("no LOOK", 0, x.look(corner, 6));
        x.drop();
        // Columns 0, 2 stand with a gap: their WORTH above 0 counts for nothing.
        int gap = Bench.table(x, Bench.row(0, 0, 1), Bench.row(-1, 0, 0));
        Check.same("only the number", 1, x.look(gap, 6));
    }

    private static void lookWrong() {
        WellTables x = new WellTables();
        x.table(1, 1);
        Check.same("look(-1, 0)", Bench.BEYOND, x.look(-1, 0));
        Check.same("look(1, 0)", Bench.BEYOND, x.look(1, 0));
        Check.same("BEYOND is ahead of NO", Bench.BEYOND, x.look(1, 9));
        Check.same("BEYOND is ahead of KIND", Bench.BEYOND, x.look(Bench.MAX, 7));
        Check.same("look(0, 7)", Bench.KIND, x.look(0, 7));
        Check.same("look(0, 8)", Bench.NO, x.look(0, 8));
        Check.same("look(0, -1)", Bench.NO, x.look(0, -1));
        Check.same("look(0, MIN)", Bench.NO, x.look(0, Bench.MIN));
        x.net(1);
        x.made(0);
        Check.same("turned it is MADE", 2, x.turn(1, 0));
        Check.same("look(2, 7)", Bench.KIND, x.look(2, 7));
        x.tell(0, 1);
        x.band(1, 1);
        Check.same("look(3, 7)", Bench.KIND, x.look(3, 7));
        Bench.refusals(x, 0, 4, 0, 3, 0, 3, 0);
    }

    private static void drop() {
        WellTables x = new WellTables();
        int first = Bench.table(x, Bench.row(5));
        x.table(2, 2);
        x.table(3, 3);
        Check.same("drop()", 2, x.drop());
        Check.same("gone", Bench.BEYOND, x.look(2, 0));
        Check.same("drop()", 1, x.drop());
        Check.same("the first stays", 5, x.at(first, 0, 0));
        Check.same("drop()", 0, x.drop());
        Check.same("drop()", Bench.MISSING, x.drop());
        Check.same("drop()", Bench.MISSING, x.drop());
        Check.same("table", 0, x.table(1, 1));
        Bench.refusals(x, 2, 1, 0, 0, 0, 0, 0);
    }

    private static void worth() {
        WellTables x = new WellTables();
        int t = Bench.table(x, Bench.row(2, -1, 0, 3), Bench.row(1, 4, -2, 5), Bench.row(0, 6, 7, -3));
        Check.same("a number", -1, x.worth(t, 1, 2));
        Check.same("the last", -3, x.worth(t, 4, 8));
        Check.same("rows 0 1, columns 0 1", 9, x.worth(t, 3, 3));
        Check.same("rows 0 2, columns 1 3", -15, x.worth(t, 5, 10));
        Check.same("rows 1 2, columns 2 3", -29, x.worth(t, 6, 12));
        Check.same("three by three", 87, x.worth(t, 7, 7));
        // 2 * (4 * -3 - 5 * 6) + 1 * (1 * -3 - 5 * 0) + 3 * (1 * 6 - 4 * 0)
        Check.same("columns 0 1 3", -69, x.worth(t, 7, 11));
        Check.same("noughts", 0, x.worth(x.table(5, 5), 31, 31));
        Bench.refusals(x, 0, 0, 0, 0, 0, 0, 0);
    }

    private static void worthGreatest() {
        WellTables x = new WellTables();
        // 48 thousands to the fifth is the greatest of a five by five table of signs.
        int t = Bench.table(x, Bench.row(1000, 1000, 1000, 1000, 1000), Bench.row(1000, -1000, 1000, -1000, 1000),
            Bench.row(1000, 1000, -1000, -1000, 1000), Bench.row(1000, -1000, -1000, 1000, 1000),
            Bench.row(1000, 1000, 1000, 1000, -1000));
        Check.same("five by five", -32_000_000_000_000_000L, x.worth(t, 31, 31));
        Check.same("four by four", 16_000_000_000_000L, Math.abs(x.worth(t, 15, 15)));
    }

    private static void worthWrong() {
        WellTables x = new WellTables();
        int t = Bench.table(x, Bench.row(1, 2, 3), Bench.row(4, 5, 6));
        int[][] beyond = {{-1, 1, 1}, {1, 1, 1}, {t, 0, 1}, {t, 1, 0}, {t, 4, 1}, {t, 1, 8}, {t, -1, 1}, {t, 1, -1},
            {t, Bench.MIN, 1}, {t, 1, Bench.MAX}, {t, 8, 3}, {t, 5, 1}};
        for (int[] b : beyond) {
            Check.same("worth beyond", 0, x.worth(b[0], b[1], b[2]));
        }
        Bench.refusals(x, 0, 12, 0, 0, 0, 0, 0);
        Check.same("unlike many", 0, x.worth(t, 3, 1));
        Check.same("unlike many", 0, x.worth(t, 1, 7));
        Bench.refusals(x, 0, 12, 0, 0, 0, 2, 0);
    }

    private static void low() {
        WellTables x = new WellTables();
        int t = Bench.table(x, Bench.row(1, 0), Bench.row(0, 1));
        Check.same("low", Bench.NONE, x.low(t, false));
        Check.same("low strict", 32 + 2, x.low(t, true));
        x.set(t, 0, 1, 2);
        x.set(t, 1, 0, 3);
        Check.same("the whole", 32 * 3 + 3, x.low(t, false));
        Check.same("the whole, strict", 32 * 3 + 3, x.low(t, true));
        x.set(t, 1, 1, 6);
        Check.same("0 is low when strict", 32 * 3 + 3, x.low(t, true));
        Check.same("and only then", Bench.NONE, x.low(t, false));
        Check.same("NONE is no refusal", 0, x.status(Bench.NO));
        Check.same("low(-1)", Bench.BEYOND, x.low(-1, false));
        Check.same("low(1)", Bench.BEYOND, x.low(1, true));
        Bench.refusals(x, 0, 2, 0, 0, 0, 0, 0);
    }

    private static void lowOrder() {
        WellTables x = new WellTables();
        // Rows 0 1 have a WORTH below 0 at columns 0 2 as at 1 2; row 2 has numbers below 0, and comes first.
        int t = Bench.table(x, Bench.row(1, 1, 5), Bench.row(1, 1, 1), Bench.row(9, -1, -1));
        Check.same("fewer rows first", 32 * 4 + 2, x.low(t, false));
        x.set(t, 2, 1, 0);
        x.set(t, 2, 2, 0);
        Check.same("lower columns first", 32 * 3 + 5, x.low(t, false));
        Check.same("a nought", 32 * 4 + 2, x.low(t, true));
        x.set(t, 0, 2, 1);
        Check.same("lower rows first", 32 * 5 + 3, x.low(t, false));
        int wide = Bench.table(x, Bench.row(1, 1, 1, 1, -1));
        Check.same("the last column", 32 + 16, x.low(wide, false));
        x.set(wide, 0, 0, -1);
        Check.same("the first column", 32 + 1, x.low(wide, false));
        Check.same("the first column, strict", 32 + 1, x.low(wide, true));
        int high = x.turn(wide, 0);
        Check.same("the first row", 32 + 1, x.low(high, false));
        int last = x.turn(x.part(wide, 1, 30), 0);
        Check.same("the last row", 32 * 8 + 1, x.low(last, false));
    }

    private static void count() {
        WellTables x = new WellTables();
        int t = Bench.table(x, Bench.row(1, 0, -2), Bench.row(0, 3, 0));
        // Numbers: 2 above, 3 at, 1 below 0; pairs: 3, 0, 6.
        Check.same("below 0", 1, x.count(t, -1));
        Check.same("at 0", 4, x.count(t, 0));
        Check.same("above 0", 4, x.count(t, 1));
        int all = x.table(5, 5);
        Check.same("all of 5 by 5", 251, x.count(all, 0));
        Check.same("none", 0, x.count(all, 1));
        Check.same("sign 2", Bench.NO, x.count(t, 2));
        Check.same("sign -2", Bench.NO, x.count(t, -2));
        Check.same("BEYOND is first", Bench.BEYOND, x.count(2, 2));
        Check.same("count(-1)", Bench.BEYOND, x.count(-1, 0));
        Bench.refusals(x, 0, 2, 0, 0, 0, 2, 0);
    }

    private static void product() {
        WellTables x = new WellTables();
        int a = Bench.table(x, Bench.row(1, 2, 3), Bench.row(4, 5, 6));
        int b = Bench.table(x, Bench.row(1, 0, 0, -1), Bench.row(0, 1, 0, 2), Bench.row(0, 0, 2, 1));
        Check.same("product", 2, x.product(a, b));
        Bench.holdsNumbers(x, 2, Bench.row(1, 2, 6, 6), Bench.row(4, 5, 12, 12));
        Check.same("MADE", 3, x.look(2, 0));
        int c = Bench.table(x, Bench.row(10, 30), Bench.row(0, 0));
        int d = Bench.table(x, Bench.row(10, 0), Bench.row(30, 0));
        Check.same("just 1000", 5, x.product(c, d));
        Check.same("at", 1000, x.at(5, 0, 0));
        x.set(d, 0, 0, -10);
        x.set(d, 1, 0, -30);
        Check.same("just -1000", 6, x.product(c, d));
        Check.same("at", -1000, x.at(6, 0, 0));
        Check.same("the first stays", 30, x.at(c, 0, 1));
        Check.same("turned", 7, x.turn(a, 0));
        Check.same("more rows than columns", 8, x.product(7, a));
        Bench.holdsNumbers(x, 8, Bench.row(17, 22, 27), Bench.row(22, 29, 36), Bench.row(27, 36, 45));
        int one = Bench.table(x, Bench.row(-3));
        Check.same("of itself", 10, x.product(one, one));
        Bench.holdsNumbers(x, 10, Bench.row(9));
    }

    private static void productWrong() {
        WellTables x = new WellTables();
        int a = Bench.table(x, Bench.row(10, 30), Bench.row(0, 1));
        int b = Bench.table(x, Bench.row(11, 0, 0), Bench.row(30, 0, 0));
        Check.same("1010 is too big", Bench.FULL, x.product(a, b));
        x.set(b, 0, 0, -11);
        x.set(b, 1, 0, -30);
        Check.same("-1010 is too big", Bench.FULL, x.product(a, b));
        Check.same("none came", Bench.BEYOND, x.look(2, 0));
        Check.same("columns, rows", Bench.NO, x.product(b, a));
        Check.same("BEYOND", Bench.BEYOND, x.product(a, 2));
        Check.same("BEYOND", Bench.BEYOND, x.product(-1, a));
        Bench.fillTables(x);
        Check.same("no room", Bench.FULL, x.product(a, a));
        Check.same("NO is ahead of FULL", Bench.NO, x.product(b, a));
        Check.same("BEYOND is ahead of FULL", Bench.BEYOND, x.product(12, a));
        Bench.refusals(x, 0, 4, 0, 0, 0, 2, 4);
        Check.same("twelve are there", 11, x.drop());
    }

    private static void sum() {
        WellTables x = new WellTables();
        int a = Bench.table(x, Bench.row(1, -2, 500), Bench.row(4, 5, -500));
        int b = Bench.table(x, Bench.row(7, 7, 500), Bench.row(-4, 1, -500));
        Check.same("sum", 2, x.sum(a, b));
        Bench.holdsNumbers(x, 2, Bench.row(8, 5, 1000), Bench.row(0, 6, -1000));
        Check.same("MADE", 3, x.look(2, 0));
        Check.same("of itself", 3, x.sum(a, a));
        Bench.holdsNumbers(x, 3, Bench.row(2, -4, 1000), Bench.row(8, 10, -1000));
        int high = Bench.table(x, Bench.row(1), Bench.row(2), Bench.row(3));
        Check.same("more rows than columns", 5, x.sum(high, high));
        Bench.holdsNumbers(x, 5, Bench.row(2), Bench.row(4), Bench.row(6));
        Bench.holdsNumbers(x, a, Bench.row(1, -2, 500), Bench.row(4, 5, -500));
    }

    private static void sumWrong() {
        WellTables x = new WellTables();
        int a = Bench.table(x, Bench.row(1, 501), Bench.row(0, -501));
        int b = Bench.table(x, Bench.row(1, 500), Bench.row(0, 0));
        int c = Bench.table(x, Bench.row(1, 1), Bench.row(0, -500));
        int d = x.table(2, 3);
        int e = x.table(3, 2);
        Check.same("1001", Bench.FULL, x.sum(a, b));
        Check.same("-1001", Bench.FULL, x.sum(a, c));
        Check.same("unlike columns", Bench.NO, x.sum(a, d));
        Check.same("unlike rows", Bench.NO, x.sum(a, e));
        Check.same("unlike both", Bench.NO, x.sum(e, d));
        Check.same("BEYOND", Bench.BEYOND, x.sum(a, 5));
        Check.same("BEYOND", Bench.BEYOND, x.sum(-1, 0));
        Bench.fillTables(x);
        Check.same("no room", Bench.FULL, x.sum(b, c));
        Check.same("NO is ahead of FULL", Bench.NO, x.sum(a, d));
        Check.same("BEYOND is ahead of FULL", Bench.BEYOND, x.sum(12, 12));
        Bench.refusals(x, 0, 3, 0, 0, 0, 4, 4);
    }

    private static void part() {
        WellTables x = new WellTables();
        int a = Bench.table(x, Bench.row(1, 2, 3), Bench.row(4, 5, 6), Bench.row(7, 8, 9));
        Check.same("part", 1, x.part(a, 5, 6));
        Bench.holdsNumbers(x, 1, Bench.row(2, 3), Bench.row(8, 9));
        Check.same("unlike many", 2, x.part(a, 7, 2));
        Bench.holdsNumbers(x, 2, Bench.row(2), Bench.row(5), Bench.row(8));
        Check.same("all", 3, x.part(a, 7, 7));
        Check.same("the same numbers", 1, x.same(a, 3));
        Check.same("MADE", 3, x.look(3, 0));
        Check.same("a row", 4, x.part(a, 2, 5));
        Bench.holdsNumbers(x, 4, Bench.row(4, 6));
        int wide = Bench.table(x, Bench.row(1, 2, 3, 4, 5));
        Check.same("of a wide one", 6, x.part(wide, 1, 25));
        Bench.holdsNumbers(x, 6, Bench.row(1, 4, 5));
        int high = x.turn(wide, 0);
        Check.same("of a high one", 8, x.part(high, 25, 1));
        Bench.holdsNumbers(x, 8, Bench.row(1), Bench.row(4), Bench.row(5));
    }

    private static void partWrong() {
        WellTables x = new WellTables();
        int a = x.table(3, 2);
        int[][] beyond = {{1, 1, 1}, {-1, 1, 1}, {a, 0, 1}, {a, 1, 0}, {a, 8, 1}, {a, 1, 4}, {a, -1, 1}, {a, 1, -1},
            {a, Bench.MAX, 1}, {a, 1, Bench.MIN}, {a, 9, 1}};
        for (int[] b : beyond) {
            Check.same("part beyond", Bench.BEYOND, x.part(b[0], b[1], b[2]));
        }
        Check.same("the highest bits", 1, x.part(a, 4, 2));
        Bench.fillTables(x);
        Check.same("no room", Bench.FULL, x.part(a, 1, 1));
        Check.same("BEYOND is ahead of FULL", Bench.BEYOND, x.part(a, 0, 0));
        Bench.refusals(x, 0, 12, 0, 0, 0, 0, 2);
    }

    private static void turn() {
        WellTables x = new WellTables();
        int a = Bench.table(x, Bench.row(1, 2, 3), Bench.row(4, 5, 6));
        Check.same("turn 0", 1, x.turn(a, 0));
        Bench.holdsNumbers(x, 1, Bench.row(1, 4), Bench.row(2, 5), Bench.row(3, 6));
        Check.same("turn 1", 2, x.turn(a, 1));
        Bench.holdsNumbers(x, 2, Bench.row(6, 5, 4), Bench.row(3, 2, 1));
        Check.same("turn 2", 3, x.turn(a, 2));
        Bench.holdsNumbers(x, 3, Bench.row(4, 5, 6), Bench.row(1, 2, 3));
        Check.same("MADE", 3, x.look(3, 0));
        Check.same("turned back", 4, x.turn(1, 0));
        Check.same("same", 1, x.same(4, a));
        for (int t = 1; t <= 4; t++) {
            Check.same("MADE", 3, x.look(t, 0));
        }
        Check.same("a high one", 5, x.turn(1, 1));
        Bench.holdsNumbers(x, 5, Bench.row(6, 3), Bench.row(5, 2), Bench.row(4, 1));
        Check.same("a high one", 6, x.turn(1, 2));
        Bench.holdsNumbers(x, 6, Bench.row(3, 6), Bench.row(2, 5), Bench.row(1, 4));
        Bench.holdsNumbers(x, a, Bench.row(1, 2, 3), Bench.row(4, 5, 6));
    }

    private static void turnWrong() {
        WellTables x = new WellTables();
        int a = x.table(1, 2);
        Check.same("turn 3", Bench.NO, x.turn(a, 3));
        Check.same("turn -1", Bench.NO, x.turn(a, -1));
        Check.same("BEYOND", Bench.BEYOND, x.turn(1, 0));
        Check.same("BEYOND is first", Bench.BEYOND, x.turn(-1, 3));
        Bench.fillTables(x);
        Check.same("no room", Bench.FULL, x.turn(a, 0));
        Check.same("NO is ahead of FULL", Bench.NO, x.turn(a, 3));
        Bench.refusals(x, 0, 2, 0, 0, 0, 3, 2);
    }

    private static void same() {
        WellTables x = new WellTables();
        int a = Bench.table(x, Bench.row(1, 2, 3), Bench.row(4, 5, 6));
        int b = Bench.table(x, Bench.row(1, 2, 3), Bench.row(4, 5, 6));
        Check.same("same", 1, x.same(a, b));
        Check.same("itself", 1, x.same(b, b));
        x.set(b, 1, 2, 7);
        Check.same("the last differs", 0, x.same(a, b));
        x.set(b, 1, 2, 6);
        x.set(b, 0, 0, 0);
        Check.same("the first differs", 0, x.same(a, b));
        int c = x.table(1, 2);
        int d = x.table(2, 1);
        int e = x.table(1, 3);
        Check.same("unlike rows, columns", 0, x.same(c, d));
        Check.same("unlike columns", 0, x.same(c, e));
        x.table(2, 2);
        Check.same("unlike rows", 0, x.same(c, 5));
        Check.same("another KIND", 6, x.turn(c, 1));
        Check.same("same numbers", 1, x.same(c, 6));
        int high = Bench.table(x, Bench.row(1), Bench.row(2), Bench.row(3));
        int higher = Bench.table(x, Bench.row(1), Bench.row(2), Bench.row(4));
        Check.same("the last row differs", 0, x.same(high, higher));
        Check.same("BEYOND", Bench.BEYOND, x.same(a, 9));
        Check.same("BEYOND", Bench.BEYOND, x.same(-1, a));
        Bench.refusals(x, 0, 2, 0, 0, 0, 0, 0);
    }
}

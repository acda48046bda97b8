/** Promises 23 to 27. */
final class SignTests {
    private static final int UP = 0;
    private static final int DOWN = 1;
    private static final int ON = 2;

    private SignTests() {
    }

    static void all() {
        Check.test("23: tell", SignTests::tell);
        Check.test("23: tell, wrong", SignTests::tellWrong);
        Check.test("24: changes", SignTests::changes);
        Check.test("24: changes, wrong", SignTests::changesWrong);
        Check.test("25: band", SignTests::band);
        Check.test("25: band, wrong", SignTests::bandWrong);
        Check.test("26: make", SignTests::make);
        Check.test("26: make, what can't be MADE", SignTests::makeCant);
        Check.test("26: make, wrong", SignTests::makeWrong);
        Check.test("27: making", SignTests::making);
        Check.test("27: making, great fractions", SignTests::makingGreat);
        Check.test("27: making, wrong", SignTests::makingWrong);
    }

    private static void tell() {
        WellTables x = new WellTables();
        Check.same("tell", 1, x.tell(3, 1000));
        Bench.holdsRow(x, 0, 0, 0, 1000);
        Check.same("tell", 1, x.tell(15, -1000));
        Check.same("the last", -1000, x.row(15));
        Check.same("the other stays", 1000, x.row(3));
        Check.same("tell", 1, x.tell(0, -7));
        Check.same("first", -7, x.row(0));
        x.tear();
        Check.same("tell", 1, x.tell(1, 5));
        Bench.holdsRow(x, 0, 5);
        Bench.refusals(x, 0, 0, 0, 0, 0, 0, 0);
    }

    private static void tellWrong() {
        WellTables x = new WellTables();
        int[] beyond = {-1, 16, Bench.MIN, Bench.MAX};
        for (int i : beyond) {
            Check.same("tell(" + i + ")", Bench.BEYOND, x.tell(i, 0));
        }
        Check.same("BEYOND is first", Bench.BEYOND, x.tell(16, 1001));
        int[] wrong = {1001, -1001, Bench.MIN, Bench.MAX};
        for (int v : wrong) {
            Check.same("tell NO", Bench.NO, x.tell(0, v));
        }
        Check.same("THE ROW is missing still", 0, x.tear());
        x.tell(2, 8);
        Check.same("tell NO", Bench.NO, x.tell(2, 1001));
        Check.same("as it was", 8, x.row(2));
        Bench.refusals(x, 0, 5, 0, 0, 0, 5, 0);
    }

    private static void changes() {
        WellTables x = new WellTables();
        int id = Bench.table(x, Bench.row(1, 0, 0, 0), Bench.row(0, 1, 0, 0), Bench.row(0, 0, 1, 0), Bench.row(0, 0, 0, 1));
        int turned = x.turn(id, 2);
        int ones = Bench.table(x, Bench.row(1, 1, 1, 1), Bench.row(-1, -1, -1, -1));
        int two = x.table(3, 2);
        x.set(two, 0, 0, 1);
        x.set(two, 2, 1, 1);
        Bench.tellRow(x, 3, 0, -2, 5, -1);
        Check.same("as they are", 22, x.changes(id));
        Check.same("the other order", 22, x.changes(turned));
        Check.same("6 and -6", 21, x.changes(ones));
        Check.same("3 0 0, of 3 0", 0, x.changes(two));
        x.tell(1, -1);
        Check.same("3 0 -1, of 3 -1", 11, x.changes(two));
        Check.same("3 -1 -2 5", 22, x.changes(id));
        Bench.tellRow(x, 0, 0, 0, 0);
        Check.same("noughts", 0, x.changes(ones));
        Bench.tellRow(x, -4, 0, 0, 4);
        Check.same("noughts between", 11, x.changes(id));
        Check.same("they add up to 0", 10, x.changes(ones));
        int five = x.table(5, 5);
        int sign = 1;
        for (int k = 0; k < 5; k++) {
            x.set(five, k, k, 1000);
            x.tell(k, 1000 * sign);
            sign = -sign;
        }
        Check.same("the most", 44, x.changes(five));
        Bench.refusals(x, 0, 0, 0, 0, 0, 0, 0);
    }

    private static void changesWrong() {
        WellTables x = new WellTables();
        Check.same("BEYOND is first", Bench.BEYOND, x.changes(0));
        x.table(2, 2);
        Check.same("MISSING", Bench.MISSING, x.changes(0));
        x.tell(0, 1);
        Check.same("there", 0, x.changes(0));
        Check.same("BEYOND", Bench.BEYOND, x.changes(-1));
        Check.same("BEYOND", Bench.BEYOND, x.changes(1));
        x.tear();
        Check.same("MISSING", Bench.MISSING, x.changes(0));
        Bench.refusals(x, 2, 3, 0, 0, 0, 0, 0);
    }

    private static void band() {
        WellTables x = new WellTables();
        Bench.tellRow(x, 7, -8, 9, 1000, -1000, 6);
        Check.same("band", 0, x.band(4, 2));
        Bench.holdsNumbers(x, 0, Bench.row(7, -8, 0, 0), Bench.row(0, 7, -8, 0), Bench.row(0, 0, 7, -8), Bench.row(0, 0, 0, 7));
        Check.same("band", 1, x.band(2, 5));
        Bench.holdsNumbers(x, 1, Bench.row(7, -8), Bench.row(0, 7));
        Check.same("band", 2, x.band(5, 5));
        Check.same("the last", -1000, x.at(2, 0, 4));
        Check.same("below", 0, x.at(2, 4, 0));
        Check.same("band", 3, x.band(3, 1));
        Bench.holdsNumbers(x, 3, Bench.row(7, 0, 0), Bench.row(0, 7, 0), Bench.row(0, 0, 7));
        Check.same("BAND", 2, x.look(3, 0));
        Check.same("band", 4, x.band(3, 3));
        Bench.holdsNumbers(x, 4, Bench.row(7, -8, 9), Bench.row(0, 7, -8), Bench.row(0, 0, 7));
        x.tell(0, 1);
        Check.same("made ones stay", 7, x.at(4, 0, 0));
    }

    private static void bandWrong() {
        WellTables x = new WellTables();
        Check.same("MISSING is first", Bench.MISSING, x.band(0, 0));
        x.tell(0, 1);
        int[] wrong = {0, 6, -1, Bench.MIN, Bench.MAX};
        for (int n : wrong) {
            Check.same("band(" + n + ", 1)", Bench.NO, x.band(n, 1));
            Check.same("band(1, " + n + ")", Bench.NO, x.band(1, n));
        }
        Check.same("none came", Bench.MISSING, x.drop());
        Bench.fillTables(x);
        Check.same("no room", Bench.FULL, x.band(1, 1));
        Check.same("NO is ahead of FULL", Bench.NO, x.band(6, 1));
        x.tear();
        Check.same("MISSING is first", Bench.MISSING, x.band(1, 1));
        Bench.refusals(x, 3, 0, 0, 0, 0, 11, 2);
    }

    private static void make() {
        WellTables x = new WellTables();
        int id = Bench.table(x, Bench.row(1, 0, 0), Bench.row(0, 1, 0), Bench.row(0, 0, 1));
        Check.same("only ON", 3, x.make(id));
        int one = Bench.table(x, Bench.row(6));
        Check.same("one", 1, x.make(one));
        int low = Bench.table(x, Bench.row(2, 0), Bench.row(4, 3));
        Check.same("a DOWN", 3, x.make(low));
        int high = x.turn(low, 0);
        Check.same("an UP", 3, x.make(high));
        int full = Bench.table(x, Bench.row(1, 1, 1), Bench.row(1, 2, 3), Bench.row(1, 3, 6));
        Check.same("all", 9, x.make(full));
        // Row 1, 2 are alike in column 0, and then row 2 has nothing left in column 1.
        int fewer = Bench.table(x, Bench.row(1, 1, 0), Bench.row(1, 2, 1), Bench.row(1, 2, 3));
        Check.same("fewer", 7, x.make(fewer));
        int plain = x.part(full, 3, 3);
        Check.same("a MADE TABLE", 4, x.make(plain));
    }

    private static void makeCant() {
        WellTables x = new WellTables();
        int[][][] tables = {
            {{0}},
            {{-1}},
            {{0, 1}, {1, 0}},
            {{1, 1}, {1, 1}},
            {{1, 2}, {2, 1}},
            {{1, -1}, {0, 1}},
            {{1, 0}, {-1, 1}},
            {{-2, 0}, {-2, 1}},
            {{1, 0, 0}, {0, 1, 0}, {1, 0, 1}},
            {{1, 0, 1}, {0, 1, 0}, {0, 0, 1}},
            {{1, 1, 1}, {1, 2, 3}, {1, 1, 6}},
        };
        for (int k = 0; k < tables.length; k++) {
            Check.same("can't " + k, 0, x.make(Bench.table(x, tables[k])));
            Check.same("no STEP", 0, x.making(0, 0));
        }
        Bench.refusals(x, 0, tables.length, 0, 0, 0, 0, 0);
    }

    private static void makeWrong() {
        WellTables x = new WellTables();
        int good = Bench.table(x, Bench.row(3, 0), Bench.row(0, 5));
        int wide = x.table(2, 3);
        int four = x.table(4, 4);
        int high = x.table(4, 3);
        Check.same("make", 2, x.make(good));
        Check.same("NO", Bench.NO, x.make(wide));
        Check.same("NO", Bench.NO, x.make(four));
        Check.same("NO", Bench.NO, x.make(high));
        Check.same("BEYOND", Bench.BEYOND, x.make(4));
        Check.same("BEYOND", Bench.BEYOND, x.make(-1));
        Check.same("the latest that wasn't refused", 5, x.making(1, 2));
        Bench.refusals(x, 0, 2, 0, 0, 0, 3, 0);
        x.drop();
        x.drop();
        x.drop();
        x.drop();
        Check.same("stays without its TABLE", 3, x.making(0, 2));
    }

    private static void steps(WellTables x, int[]... due) {
        for (int i = 0; i < due.length; i++) {
            for (int what = 0; what < 4; what++) {
                Check.same("making(" + i + ", " + what + ")", due[i][what], x.making(i, what));
            }
        }
        int before = x.status(Bench.BEYOND);
        Check.same("no more", 0, x.making(due.length, 0));
        Check.same("as status() tells", before + 1, x.status(Bench.BEYOND));
    }

    private static void making() {
        WellTables x = new WellTables();
        int a = Bench.table(x, Bench.row(4, 2, 1), Bench.row(6, 7, 5), Bench.row(3, 9, 20));
        Check.same("make", 9, x.make(a));
        // Row 2 less 1/2 of row 1: 0 11/2 35/2; row 1 less 3/2 of row 0: 0 4 7/2;
        // row 2 less 11/8 of row 1: 0 0 203/16. Columns: 2 less 1/2 of 1: 0 3/2; 1 less 1/2 of 0; 2 less 3/8 of 1.
        steps(x, new int[][] {{DOWN, 1, 1, 2}, {DOWN, 0, 3, 2}, {DOWN, 1, 11, 8}, {UP, 1, 1, 2}, {UP, 0, 1, 2},
            {UP, 1, 3, 8}, {ON, 0, 4, 1}, {ON, 1, 4, 1}, {ON, 2, 203, 16}});
        int b = Bench.table(x, Bench.row(2, 0), Bench.row(8, 3));
        Check.same("make", 3, x.make(b));
        steps(x, new int[][] {{DOWN, 0, 4, 1}, {ON, 0, 2, 1}, {ON, 1, 3, 1}});
        int c = x.turn(b, 0);
        Check.same("make", 3, x.make(c));
        steps(x, new int[][] {{UP, 0, 4, 1}, {ON, 0, 2, 1}, {ON, 1, 3, 1}});
        int can = x.table(1, 1);
        Check.same("can't", 0, x.make(can));
        steps(x);
    }

    private static void makingGreat() {
        WellTables x = new WellTables();
        // Primes near 1000, so that nothing is shared by upper and lower numbers.
        int a = Bench.table(x, Bench.row(997, 101, 2), Bench.row(991, 983, 103), Bench.row(107, 977, 971));
        Check.same("make", 9, x.make(a));
        steps(x, new int[][] {{DOWN, 1, 107, 991}, {DOWN, 0, 991, 997}, {DOWN, 1, 430218461, 436020180},
            {UP, 1, 2, 101}, {UP, 0, 101, 997}, {UP, 1, 8411689, 88875960},
            {ON, 0, 997, 1}, {ON, 1, 879960, 997}, {ON, 2, 378475613, 439980}});
    }

    private static void makingWrong() {
        WellTables x = new WellTables();
        Check.same("ahead of make()", 0, x.making(0, 0));
        x.make(Bench.table(x, Bench.row(3, 0), Bench.row(0, 5)));
        int[] beyond = {2, -1, 9, 16, Bench.MIN, Bench.MAX};
        for (int i : beyond) {
            Check.same("making(" + i + ")", 0, x.making(i, 0));
        }
        Bench.refusals(x, 0, 7, 0, 0, 0, 0, 0);
        Check.same("BEYOND is first", 0, x.making(2, 4));
        Bench.refusals(x, 0, 8, 0, 0, 0, 0, 0);
        int[] wrong = {4, -1, Bench.MIN, Bench.MAX};
        for (int what : wrong) {
            Check.same("what " + what, 0, x.making(0, what));
        }
        Bench.refusals(x, 0, 8, 0, 0, 0, 4, 0);
    }
}

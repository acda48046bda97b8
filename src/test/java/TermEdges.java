/** The edges that the document's terms name, a test for each. */
final class TermEdges {
    private static final int BEYOND = Bench.BEYOND;
    private static final int NO = Bench.NO;
    private static final int FULL = Bench.FULL;
    private static final int MISSING = Bench.MISSING;
    private static final Run NEW = Scene.NEW;
    private static final Run SOME = Scene.SOME;

    private TermEdges() {
    }

    static void all() {
        sizes();
        worths();
        looks();
        nets();
        ways();
        signs();
        bands();
        makings();
        refusals();
        calls();
    }

    private static void sizes() {
        Check.test("term 1: rows 1 .. 5", () -> Edge.ends(NEW, NO, 0, 1, 5, "table", 3, 2));
        Check.test("term 1: columns 1 .. 5", () -> Edge.ends(NEW, NO, 1, 1, 5, "table", 2, 3));
        Check.test("term 1: numbers -1000 .. 1000", () -> Edge.ends(SOME, NO, 3, -1000, 1000, "set", 0, 1, 1, 7));
        Check.test("term 1: TABLES 0 .. 11", () -> {
            for (int many = 0; many < 12; many++) {
                Edge.taken(Scene.tables(many), many, "table", 1, 1);
            }
            Edge.refused(Scene.tables(12), FULL, "table", 1, 1);
        });
        Check.test("term 1: their numbers 0 .. 11 in a call", () -> {
            Edge.taken(Scene.tables(12), 0, "look", 0, 0);
            Edge.taken(Scene.tables(12), 0, "look", 11, 0);
            Edge.refused(Scene.tables(12), BEYOND, "look", 12, 0);
            Edge.refused(Scene.tables(12), BEYOND, "look", -1, 0);
            Edge.refused(Scene.tables(11), BEYOND, "look", 11, 0);
        });
        Check.test("term 1: KINDS 0 .. 3", () -> {
            Edge.taken(NEW.then("table", 1, 1), 0, "look", 0, 0);
            Edge.taken(Scene.steps(1, 0, 1).then("made", 0), 1, "look", 0, 0);
            Edge.taken(NEW.then("tell", 0, 1).then("band", 1, 1), 2, "look", 0, 0);
            Run plain = NEW.then("table", 1, 1);
            Edge.taken(plain.then("product", 0, 0), 3, "look", 1, 0);
            Edge.taken(plain.then("sum", 0, 0), 3, "look", 1, 0);
            Edge.taken(plain.then("part", 0, 1, 1), 3, "look", 1, 0);
            Edge.taken(plain.then("turn", 0, 0), 3, "look", 1, 0);
        });
        Check.test("term 1: a KIND goes with its TABLE", () -> {
            Run again = Scene.steps(1, 0, 1).then("made", 0).then("drop").then("table", 1, 1);
            Edge.taken(again, 0, "look", 0, 0);
            Edge.refused(again, Bench.KIND, "look", 0, 7);
            Edge.taken(again, 0, "set", 0, 0, 0, 4);
        });
    }

    private static void worths() {
        Run one = NEW.table(0, Bench.row(-7, 4));
        Check.test("term 1: a PART has one row at least", () -> {
            Edge.taken(one, -7, "worth", 0, 1, 1);
            Edge.refused(one, BEYOND, "worth", 0, 0, 1);
            Edge.refused(one, BEYOND, "part", 0, 0, 1);
        });
        Check.test("term 1: a PART has one column at least", () -> {
            Edge.taken(one, 4, "worth", 0, 1, 2);
            Edge.refused(one, BEYOND, "worth", 0, 1, 0);
            Edge.refused(one, BEYOND, "part", 0, 1, 0);
        });
        Check.test("term 1: the whole TABLE is a PART", () -> {
            Run five = NEW.table(0, Bench.row(2, 0, 0, 0, 0), Bench.row(0, 0, 3, 0, 0), Bench.row(0, 1, 0, 0, 0),
                Bench.row(0, 0, 0, 5, 0), Bench.row(0, 0, 0, 0, 7));
            Edge.taken(five, -210, "worth", 0, 31, 31);
            Edge.taken(five, 32 * 6 + 6, "low", 0, 0);
        });
        Check.test("term 1: the greatest WORTHS, above and below 0", () -> {
            int a = 1000;
            Run five = NEW.table(0, Bench.row(a, a, a, a, a), Bench.row(a, -a, a, -a, a), Bench.row(a, a, -a, -a, a),
                Bench.row(a, -a, -a, a, a), Bench.row(a, a, a, a, -a));
            Edge.taken(five, -32_000_000_000_000_000L, "worth", 0, 31, 31);
            Edge.taken(five.then("turn", 0, 2).then("turn", 1, 0), -32_000_000_000_000_000L, "worth", 2, 31, 31);
            Edge.taken(five.then("set", 0, 4, 4, a).then("set", 0, 0, 4, -a), 32_000_000_000_000_000L, "worth", 0, 31, 31);
        });
        Check.test("term 1: WELL with a WORTH of 0, not with one of -1", () -> {
            Edge.taken(NEW.table(0, Bench.row(0)), 1, "look", 0, 3);
            Edge.taken(NEW.table(0, Bench.row(-1)), 0, "look", 0, 3);
            Edge.taken(NEW.table(0, Bench.row(1, 1), Bench.row(1, 1)), 1, "look", 0, 3);
            Edge.taken(NEW.table(0, Bench.row(1, 1), Bench.row(2, 1)), 0, "look", 0, 3);
        });
        Check.test("term 1: STRICT with a WORTH of 1, not with one of 0", () -> {
            Edge.taken(NEW.table(0, Bench.row(1)), 1, "look", 0, 4);
            Edge.taken(NEW.table(0, Bench.row(0)), 0, "look", 0, 4);
            Edge.taken(NEW.table(0, Bench.row(1, 1), Bench.row(1, 2)), 1, "look", 0, 4);
            Edge.taken(NEW.table(0, Bench.row(1, 1), Bench.row(1, 1)), 0, "look", 0, 4);
        });
        Check.test("term 1: PARTS of fewer rows come first", () -> {
            Run both = NEW.table(0, Bench.row(1, 2, 3), Bench.row(2, 1, 0), Bench.row(1, 1, -1));
            Edge.taken(both, 32 * 4 + 4, "low", 0, 0);
            Edge.taken(both, 32 * 2 + 4, "low", 0, 1);
        });
        Check.test("term 1: PARTS of as many go by rows, then columns", () -> {
            Run two = NEW.table(0, Bench.row(1, 1, -1), Bench.row(-1, 1, 1));
            Edge.taken(two, 32 + 4, "low", 0, 0);
            Edge.taken(two.then("set", 0, 0, 2, 1), 32 * 2 + 1, "low", 0, 0);
            Edge.taken(two.then("set", 0, 0, 1, -1), 32 + 2, "low", 0, 0);
        });
    }

    private static void looks() {
        Check.test("term 1: LOOKS, how many in the least and the greatest TABLES", () -> {
            int[][] due = {{1, 1, 1}, {1, 5, 5}, {5, 1, 5}, {5, 5, 25}, {2, 3, 6}, {3, 2, 6}, {2, 2, 4}, {4, 5, 20}};
            for (int[] d : due) {
                Edge.taken(NEW.then("table", d[0], d[1]), d[2], "look", 0, 5);
            }
        });
        Check.test("term 1: LOOKS above 0: 1 is, 0 and -1 are not", () -> {
            Edge.taken(NEW.table(0, Bench.row(1)), 1, "look", 0, 6);
            Edge.taken(NEW.table(0, Bench.row(0)), 0, "look", 0, 6);
            Edge.taken(NEW.table(0, Bench.row(-1)), 0, "look", 0, 6);
            Edge.taken(NEW.then("table", 5, 5), 0, "look", 0, 6);
        });
        Check.test("term 1: LOOKS have no gap, and the first row or column", () -> {
            // Rows 0, 2 with columns 0, 1 are below 0, and so is the number in the middle.
            Run gaps = NEW.table(0, Bench.row(1, 2, 9), Bench.row(0, -1, 0), Bench.row(1, 1, 1));
            Edge.taken(gaps, 9, "look", 0, 5);
            // Above 0: 1, 2, 9, and 1 of column 0; of the pairs rows 1 2, columns 0 1 and rows 0 1, columns 1 2; all.
            Edge.taken(gaps, 7, "look", 0, 6);
        });
        Check.test("term 1: STRICT just where all LOOKS are above 0", TermEdges::looksTellStrict);
    }

    private static void looksTellStrict() {
        int stricts = 0;
        stricts += strictBySize(2, 2, -1, 4);
        stricts += strictBySize(2, 3, 0, 4);
        stricts += strictBySize(3, 2, 0, 4);
        stricts += strictBySize(3, 3, 1, 3);
        Check.holds("too few were STRICT: " + stricts, stricts > 50);
    }

    private static int strictBySize(int n, int m, int least, int many) {
        int stricts = 0;
        int tables = (int) Math.pow(many, n * m);
        for (int told = 0; told < tables; told++) {
            WellTables x = new WellTables();
            x.table(n, m);
            int left = told;
            for (int place = 0; place < n * m; place++) {
                x.set(0, place / m, place % m, least + left % many);
                left /= many;
            }
            int strict = x.look(0, 5) == x.look(0, 6) ? 1 : 0;
            Check.same("STRICT of " + n + " by " + m + " no. " + told, strict, x.look(0, 4));
            Check.same("as low() tells", strict, x.low(0, true) == Bench.NONE ? 1 : 0);
            stricts += strict;
        }
        return stricts;
    }

    private static void nets() {
        Check.test("term 2: NETS 0 .. 3", () -> {
            for (int many = 0; many < 4; many++) {
                Edge.taken(NEW.times(many, "net", 2), many, "net", 2);
            }
            Edge.refused(NEW.times(4, "net", 2), FULL, "net", 2);
        });
        Check.test("term 2: their numbers 0 .. 3 in a call", () -> {
            Run four = NEW.times(4, "net", 2);
            Edge.taken(four, 1, "step", 0, 0, 0, 1);
            Edge.taken(four, 1, "step", 3, 0, 0, 1);
            Edge.refused(four, BEYOND, "step", 4, 0, 0, 1);
            Edge.refused(four, BEYOND, "step", -1, 0, 0, 1);
            Edge.refused(NEW.times(3, "net", 2), BEYOND, "step", 3, 0, 0, 1);
        });
        Check.test("term 2: LINES 1 .. 5", () -> Edge.ends(SOME, NO, 0, 1, 5, "net", 2));
        Check.test("term 2: STEPS, 16 at most", () -> {
            Edge.taken(Scene.steps(2, 15, 1), 16, "step", 0, 2, 1, 3);
            Edge.refused(Scene.steps(2, 16, 1), FULL, "step", 0, 2, 1, 3);
            Edge.taken(Scene.steps(2, 16, 1).then("back", 0), 16, "step", 0, 0, 0, 3);
        });
        Check.test("term 2: UP at 0 .. n - 2", () -> {
            Edge.ends(NEW.then("net", 5), NO, 2, 0, 3, "step", 0, 0, 0, 2);
            Edge.ends(NEW.then("net", 2), NO, 2, 0, 0, "step", 0, 0, 0, 2);
            Edge.refused(NEW.then("net", 1), NO, "step", 0, 0, 0, 2);
        });
        Check.test("term 2: DOWN at 0 .. n - 2", () -> {
            Edge.ends(NEW.then("net", 5), NO, 2, 0, 3, "step", 0, 1, 0, 2);
            Edge.ends(NEW.then("net", 2), NO, 2, 0, 0, "step", 0, 1, 0, 2);
            Edge.refused(NEW.then("net", 1), NO, "step", 0, 1, 0, 2);
        });
        Check.test("term 2: ON at 0 .. n - 1", () -> {
            Edge.ends(NEW.then("net", 5), NO, 2, 0, 4, "step", 0, 2, 0, 2);
            Edge.ends(NEW.then("net", 1), NO, 2, 0, 0, "step", 0, 2, 0, 2);
        });
        Check.test("term 2: kinds 0 .. 2", () -> Edge.ends(NEW.then("net", 3), NO, 1, 0, 2, "step", 0, 0, 1, 2));
        Check.test("term 2: weights 1 .. 9", () -> {
            for (int kind = 0; kind <= 2; kind++) {
                Edge.ends(NEW.then("net", 3), NO, 3, 1, 9, "step", 0, kind, 1, 2);
            }
        });
    }

    private static void ways() {
        Run up = NEW.then("net", 3).then("step", 0, 0, 0, 5);
        Check.test("term 2: at UP one stays (weight 1) or goes over (its weight)", () -> {
            Edge.taken(up, 1, "weight", 0, 1, 1);
            Edge.taken(up, 5, "weight", 0, 1, 2);
            Edge.taken(up, 0, "weight", 0, 2, 1);
            Edge.taken(up, 1, "weight", 0, 2, 2);
        });
        Run down = NEW.then("net", 3).then("step", 0, 1, 1, 5);
        Check.test("term 2: at DOWN one stays (weight 1) or goes over (its weight)", () -> {
            Edge.taken(down, 1, "weight", 0, 4, 4);
            Edge.taken(down, 5, "weight", 0, 4, 2);
            Edge.taken(down, 0, "weight", 0, 2, 4);
            Edge.taken(down, 1, "weight", 0, 2, 2);
        });
        Run on = NEW.then("net", 3).then("step", 0, 2, 1, 5);
        Check.test("term 2: ON counts for its LINE alone", () -> {
            Edge.taken(on, 1, "weight", 0, 1, 1);
            Edge.taken(on, 5, "weight", 0, 2, 2);
            Edge.taken(on, 5, "weight", 0, 7, 7);
            Edge.taken(on, 1, "families", 0, 2, 2);
        });
        Check.test("term 2: none goes over to a LINE that is taken", () -> {
            Edge.taken(up, 1, "families", 0, 3, 3);
            Edge.taken(up, 1, "weight", 0, 3, 3);
            Edge.taken(up, 5, "weight", 0, 5, 6);
            Edge.taken(down, 1, "families", 0, 6, 6);
            Edge.taken(down, 5, "weight", 0, 5, 3);
        });
        Check.test("term 2: a FAMILY from all LINES leads to all", () -> {
            Run five = NEW.then("net", 5).times(2, "step", 0, 0, 3, 5).times(2, "step", 0, 1, 0, 5).then("step", 0, 2, 4, 7);
            Edge.taken(five, 1, "families", 0, 31, 31);
            Edge.taken(five, 7, "weight", 0, 31, 31);
            Edge.taken(five, 31, "family", 0, 31, 31, 5 << 20);
        });
        Check.test("term 2: with no STEPS LINES lead to themselves alone", () -> {
            Run bare = NEW.then("net", 5);
            Edge.taken(bare, 1, "families", 0, 16, 16);
            Edge.taken(bare, 0, "families", 0, 16, 8);
            Edge.taken(bare, 1, "weight", 0, 21, 21);
            Edge.taken(bare, 0, "weight", 0, 21, 22);
            Edge.taken(bare, 21, "family", 0, 21, 21, 0);
        });
        Check.test("term 2: the weight of one way at its greatest", () -> {
            Edge.taken(Scene.steps(1, 16, 9), 1853020188851841L, "weight", 0, 1, 1);
            Edge.taken(Scene.steps(5, 16, 9), 1853020188851841L, "weight", 0, 31, 31);
        });
        Check.test("term 2: the FAMILY that stays comes first", () -> {
            Run twice = NEW.then("net", 2).times(2, "step", 0, 0, 0, 9);
            Edge.taken(twice, 1, "family", 0, 1, 2, 1 << 20);
            Edge.taken(twice, 2, "family", 0, 1, 2, (1 << 20) + 1);
        });
        Check.test("term 2: the TABLE of a NET with no STEPS", () -> {
            Edge.taken(NEW.then("net", 1), 0, "made", 0);
            Edge.taken(NEW.then("net", 5), 0, "made", 0);
            Edge.taken(NEW.then("net", 5).then("made", 0), 1, "worth", 0, 31, 31);
            Edge.taken(NEW.then("net", 5).then("made", 0), 1, "at", 0, 4, 4);
            Edge.taken(NEW.then("net", 5).then("made", 0), 0, "at", 0, 4, 3);
        });
    }

    private static Run identity(int n, int... row) {
        return NEW.then("net", n).then("made", 0).row(row);
    }

    private static void signs() {
        Check.test("term 3: CHANGES between -1 and 1, noughts left out", () -> {
            Edge.taken(identity(2, 1, -1), 11, "changes", 0);
            Edge.taken(identity(2, -1, 1), 11, "changes", 0);
            Edge.taken(identity(2, 1, 0), 0, "changes", 0);
            Edge.taken(identity(2, 0, -1), 0, "changes", 0);
            Edge.taken(identity(5, 1, 0, 0, 0, -1), 11, "changes", 0);
            Edge.taken(identity(5, 0, 1, 0, 1, 0), 0, "changes", 0);
            Edge.taken(identity(5, 0, -1, 0, -1, 0), 0, "changes", 0);
        });
        Check.test("term 3: CHANGES of noughts alone: none", () -> Edge.taken(identity(5, 0), 0, "changes", 0));
        Check.test("term 3: CHANGES, the most", () -> Edge.taken(identity(5, 1, -1, 1, -1, 1), 44, "changes", 0));
        Check.test("term 3: a row of m numbers, none behind them", () -> {
            Edge.taken(identity(1, 1, -1), 0, "changes", 0);
            Edge.taken(identity(4, 1, 1, 1, 1, -1), 0, "changes", 0);
            Edge.taken(identity(5, 1, 1, 1, 1, -1, 1), 11, "changes", 0);
        });
        Check.test("term 3: what a TABLE brings, n numbers of m", () -> {
            Run high = NEW.table(0, Bench.row(1), Bench.row(-1), Bench.row(1), Bench.row(-1), Bench.row(1)).row(3, -3);
            Edge.taken(high, 4, "changes", 0);
            Run wide = NEW.table(0, Bench.row(1, 1, 1, 1, 1)).row(1, -1, 1, -1, 1);
            Edge.taken(wide, 40, "changes", 0);
        });
        Check.test("term 3: what a TABLE brings, the greatest sums", () -> {
            int a = 1000;
            Run great = NEW.table(0, Bench.row(a, a, a, a, a), Bench.row(-a, -a, -a, -a, -a)).row(a, a, a, a, a);
            Edge.taken(great, 1, "changes", 0);
            Edge.taken(NEW.table(0, Bench.row(a, a), Bench.row(a, -a)).row(a, a), 0, "changes", 0);
        });
    }

    private static void bands() {
        Run row = NEW.row(3, -1000, 1000, 7, 8, 9);
        Check.test("term 3: a BAND of the first number alone", () -> {
            Edge.taken(row, 0, "band", 5, 1);
            Edge.taken(row.then("band", 5, 1), 243, "worth", 0, 31, 31);
            Edge.taken(row.then("band", 5, 1), 0, "at", 0, 0, 1);
        });
        Check.test("term 3: a BAND of more numbers than it has columns", () -> {
            Edge.taken(row, 0, "band", 1, 5);
            Edge.taken(row.then("band", 1, 5), 3, "at", 0, 0, 0);
            Edge.taken(row.then("band", 2, 5), -1000, "at", 0, 0, 1);
        });
        Check.test("term 3: a BAND's number is 0 if j is below i", () -> {
            Edge.taken(row.then("band", 5, 5), 0, "at", 0, 1, 0);
            Edge.taken(row.then("band", 5, 5), 3, "at", 0, 4, 4);
            Edge.taken(row.then("band", 5, 5), 0, "at", 0, 4, 0);
        });
        Check.test("term 3: a BAND's numbers k - 1 and k", () -> {
            Edge.taken(row.then("band", 5, 5), 8, "at", 0, 0, 4);
            Edge.taken(row.then("band", 5, 4), 7, "at", 0, 0, 3);
            Edge.taken(row.then("band", 5, 4), 0, "at", 0, 0, 4);
        });
    }

    private static Run made(int[]... rows) {
        return NEW.table(0, rows);
    }

    private static void makings() {
        Check.test("term 4: n is 3 at most", () -> {
            Edge.taken(NEW.then("net", 1).then("made", 0), 1, "make", 0);
            Edge.taken(NEW.then("net", 3).then("made", 0), 3, "make", 0);
            Edge.refused(NEW.then("net", 4).then("made", 0), NO, "make", 0);
            Edge.refused(NEW.then("net", 5).then("made", 0), NO, "make", 0);
        });
        Check.test("term 4: of a number that is 0 there is no STEP", () -> {
            Edge.taken(made(Bench.row(1, 0), Bench.row(0, 1)), 2, "make", 0);
            Edge.taken(made(Bench.row(1, 0), Bench.row(1, 1)), 3, "make", 0);
            Edge.taken(made(Bench.row(1, 1), Bench.row(0, 1)), 3, "make", 0);
            Edge.taken(made(Bench.row(1, 1), Bench.row(1, 2)), 4, "make", 0);
        });
        Check.test("term 4: the one above it is 0: it can't be", () -> {
            Edge.taken(made(Bench.row(0, 1), Bench.row(1, 1)), 0, "make", 0);
            Edge.taken(made(Bench.row(1, 0, 0), Bench.row(0, 1, 0), Bench.row(1, 0, 1)), 0, "make", 0);
            Edge.taken(made(Bench.row(1, 0, 1), Bench.row(0, 1, 0), Bench.row(0, 0, 1)), 0, "make", 0);
            Edge.taken(made(Bench.row(1, 1, 1), Bench.row(1, 1, 1), Bench.row(1, 2, 3)), 0, "make", 0);
        });
        Check.test("term 4: a SHARE below 0: it can't be MADE", () -> {
            Edge.taken(made(Bench.row(1, 0), Bench.row(-1, 1)), 0, "make", 0);
            Edge.taken(made(Bench.row(1, -1), Bench.row(0, 1)), 0, "make", 0);
            Edge.taken(made(Bench.row(1, 0, 0), Bench.row(0, -1, 0), Bench.row(0, 1, 1)), 0, "make", 0);
        });
        Check.test("term 4: a number on the line of 0 or below: it can't be MADE", () -> {
            Edge.taken(made(Bench.row(1)), 1, "make", 0);
            Edge.taken(made(Bench.row(0)), 0, "make", 0);
            Edge.taken(made(Bench.row(-1)), 0, "make", 0);
            Edge.taken(made(Bench.row(1, 1), Bench.row(1, 1)), 0, "make", 0);
            Edge.taken(made(Bench.row(2, 1), Bench.row(3, 1)), 0, "make", 0);
            Edge.taken(made(Bench.row(-1, -1), Bench.row(-1, -2)), 0, "make", 0);
        });
        Check.test("term 4: all STEPS, the last of them ON", () -> {
            Run all = made(Bench.row(1, 1, 1), Bench.row(1, 2, 3), Bench.row(1, 3, 6));
            Edge.taken(all, 9, "make", 0);
            int[] kinds = {1, 1, 1, 0, 0, 0, 2, 2, 2};
            int[] lines = {1, 0, 1, 1, 0, 1, 0, 1, 2};
            for (int i = 0; i < kinds.length; i++) {
                Edge.taken(all.then("make", 0), kinds[i], "making", i, 0);
                Edge.taken(all.then("make", 0), lines[i], "making", i, 1);
            }
            Edge.taken(NEW.then("table", 1, 1).then("set", 0, 0, 0, 9).then("make", 0), 2, "making", 0, 0);
        });
        Check.test("term 4: the greatest SHARES and the least", () -> {
            Run great = made(Bench.row(1, 0), Bench.row(1000, 1000)).then("make", 0);
            Edge.taken(great, 1000, "making", 0, 2);
            Edge.taken(great, 1, "making", 0, 3);
            Run least = made(Bench.row(1000, 0), Bench.row(1, 1)).then("make", 0);
            Edge.taken(least, 1, "making", 0, 2);
            Edge.taken(least, 1000, "making", 0, 3);
            Run alike = made(Bench.row(1000, 0), Bench.row(1000, 1)).then("make", 0);
            Edge.taken(alike, 1, "making", 0, 2);
            Edge.taken(alike, 1, "making", 0, 3);
        });
    }

    private static void refusals() {
        Check.test("term 5: FULL of a number beyond 1000, at each place of the TABLE that would come", () -> {
            for (int place = 0; place < 6; place++) {
                for (int end : new int[] {1000, -1000}) {
                    Run two = NEW.then("table", 2, 3).then("table", 2, 3).then("set", 0, place / 3, place % 3, end);
                    Edge.taken(two, 2, "sum", 0, 1);
                    Edge.refused(two.then("set", 1, place / 3, place % 3, Integer.signum(end)), FULL, "sum", 0, 1);
                }
            }
        });
        Check.test("term 5: a refused call leaves nothing for the next TABLE", () -> {
            Run full = NEW.table(0, Bench.row(1000, 7), Bench.row(7, 7)).then("sum", 0, 0);
            Edge.taken(full, 1, "table", 5, 5);
            Edge.taken(full, 1, "turn", 0, 1);
            Edge.taken(full.then("table", 2, 2), 0, "look", 1, 0);
        });
        Check.test("term 5: what is refused doesn't use up what others may take: 120 refused, then one taken", () -> {
            Edge.taken(NEW.then("table", 1, 1).times(120, "set", 0, 0, 0, 1001), 0, "set", 0, 0, 0, 1000);
            Edge.taken(NEW.times(120, "drop"), 0, "table", 1, 1);
        });
    }

    private static void calls() {
        Check.test("what it is: 512 calls, all of them refused but the last", () -> {
            Played x = NEW.play();
            for (int k = 0; k < Played.CALLS - 1; k++) {
                Check.same("drop() no. " + k, MISSING, x.call("drop"));
            }
            Check.same("the 512th", Played.CALLS - 1, x.call("status", MISSING));
        });
        Check.test("what it is: 512 calls, TABLES that come and go", () -> {
            Played x = NEW.play();
            for (int k = 0; k < 170; k++) {
                Check.same("table() no. " + k, 0, x.call("table", 5, 5));
                Check.same("set() no. " + k, 0, x.call("set", 0, 4, 4, k));
                Check.same("drop() no. " + k, 0, x.call("drop"));
            }
            Check.same("the 511th", 0, x.call("table", 1, 1));
            Check.same("the 512th", 0, x.call("status", BEYOND));
        });
        Check.test("what it is: 512 calls, STEPS that come and go", () -> {
            Played x = NEW.then("net", 2).play();
            for (int k = 0; k < 255; k++) {
                Check.same("step() no. " + k, 1, x.call("step", 0, 0, 0, 1 + k % 9));
                Check.same("back() no. " + k, 0, x.call("back", 0));
            }
            Check.same("the 512th", 1, x.call("step", 0, 0, 0, 9));
        });
        Check.test("what it is: 512 calls of the dearest", () -> {
            Played x = NEW.then("table", 5, 5).play();
            for (int k = 1; k < Played.CALLS; k++) {
                Check.same("count() no. " + k, 251, x.call("count", 0, 0));
            }
        });
        Check.test("what it is: 512 calls of one object don't touch another", () -> {
            Played x = NEW.play();
            Played other = NEW.play();
            for (int k = 0; k < 500; k++) {
                x.call("tell", k % 16, k);
            }
            Check.same("its ROW", 0, other.call("tear"));
            Check.same("its status()", 0, other.call("status", MISSING));
        });
    }
}

/** The edges that promises 28 to 32 name, a test for each. */
final class RowEdges {
    private static final int MISSING = Bench.MISSING;
    private static final int BEYOND = Bench.BEYOND;
    private static final int BELOW = Bench.BELOW;
    private static final int KIND = Bench.KIND;
    private static final int COPY = Bench.COPY;
    private static final int NO = Bench.NO;
    private static final int FULL = Bench.FULL;
    private static final int MIN = Bench.MIN;
    private static final int MAX = Bench.MAX;
    private static final Run NEW = Scene.NEW;
    private static final Run SOME = Scene.SOME;
    private static final Run TORN = Scene.TORN;
    private static final Run NO_ROOM = Scene.NO_ROOM;

    private RowEdges() {
    }

    static void all() {
        lay();
        tear();
        row();
        copy();
        copyWraps();
        copyOrder();
        status();
        statusOfEach();
    }

    private static void lay() {
        Check.test("28 lay: BEYOND, TABLE", () -> {
            Edge.taken(SOME, 3, "lay", 0, 0);
            Edge.taken(SOME, 1, "lay", 7, 0);
            Edge.taken(NO_ROOM, 1, "lay", 11, 0);
            Edge.outside(SOME, BEYOND, 0, 0, 7, "lay", 0, 0);
            Edge.outside(NO_ROOM, BEYOND, 0, 0, 11, "lay", 0, 0);
            Edge.refused(NEW, BEYOND, "lay", 0, 0);
        });
        Check.test("28 lay: BEYOND, row", () -> {
            Edge.ends(SOME, BEYOND, 1, 0, 1, "lay", Scene.PLAIN, 0);
            Edge.ends(SOME, BEYOND, 1, 0, 4, "lay", Scene.WIDE, 0);
            Edge.ends(SOME, BEYOND, 1, 0, 0, "lay", Scene.GREATEST, 0);
            Edge.ends(SOME, BEYOND, 1, 0, 2, "lay", Scene.MADE, 0);
        });
        Check.test("28 lay: 1 .. 5 columns, others 0", () -> {
            for (int columns = 1; columns <= 5; columns++) {
                Run wide = NEW.row(9, 9, 9, 9, 9, 9).then("tell", 15, 9).then("table", 2, columns);
                Edge.taken(wide.then("set", 0, 1, columns - 1, 7), columns, "lay", 0, 1);
                Edge.taken(wide.then("lay", 0, 0), 0, "row", columns);
                Edge.taken(wide.then("lay", 0, 0), 0, "row", 15);
            }
        });
        Check.test("28 lay: THE ROW is there then, if it was missing", () -> {
            Edge.taken(TORN, 3, "lay", 0, 1);
            Edge.taken(TORN.then("lay", 0, 1), 6, "row", 2);
            Edge.taken(TORN.then("lay", 0, 1), 1, "tear");
        });
        Check.test("28 lay: refused, THE ROW is missing still", () -> {
            Edge.refused(TORN, BEYOND, "lay", 0, 2);
            Edge.refused(TORN, BEYOND, "lay", 8, 0);
        });
    }

    private static void tear() {
        Check.test("29 tear: at first it is missing", () -> Edge.taken(NEW, 0, "tear"));
        Check.test("29 tear: there, and then not", () -> {
            Edge.taken(SOME, 1, "tear");
            Edge.taken(TORN, 0, "tear");
        });
        Check.test("29 tear: after each call that asks for THE ROW and is refused", () -> {
            Run asked = TORN.then("row", 0).then("copy", 0, 0, 1).then("band", 1, 1).then("changes", 0);
            Edge.taken(asked, 0, "tear");
        });
    }

    private static void row() {
        Check.test("30 row: MISSING", () -> {
            Edge.refused(NEW, MISSING, "row", 0);
            Edge.refused(TORN, MISSING, "row", 15);
        });
        Check.test("30 row: i 0 .. 15, BEYOND after", () -> Edge.ends(SOME, BEYOND, 0, 0, 15, "row", 0));
        Check.test("30 row: MISSING is ahead of BEYOND", () -> {
            Edge.outside(NEW, MISSING, 0, 0, 15, "row", 0);
            Edge.outside(TORN, MISSING, 0, 0, 15, "row", 0);
        });
        Check.test("30 row: a number from -8 to 0 is no refusal", () -> {
            for (int v = -8; v <= 0; v++) {
                Edge.taken(NEW.row(v), v, "row", 0);
            }
        });
    }

    private static void copy() {
        Run full = NEW;
        for (int i = 0; i < 16; i++) {
            full = full.then("tell", i, i + 1);
        }
        Run all = full;
        Check.test("31 copy: MISSING", () -> {
            Edge.refused(NEW, MISSING, "copy", 0, 0, 1);
            Edge.refused(TORN, MISSING, "copy", 0, 0, 0);
        });
        Check.test("31 copy: n from 0, BELOW under it", () -> {
            Edge.taken(all, 0, "copy", 0, 1, 0);
            Edge.refused(all, BELOW, "copy", 0, 1, -1);
            Edge.refused(all, BELOW, "copy", 0, 1, MIN);
        });
        Check.test("31 copy: n to 16, COPY above it", () -> {
            Edge.taken(all, 16, "copy", 0, 0, 16);
            Edge.refused(all, COPY, "copy", 0, 0, 17);
            Edge.refused(all, COPY, "copy", 0, 0, MAX);
        });
        Check.test("31 copy: i from 0, COPY below it", () -> {
            Edge.taken(all, 1, "copy", 0, 5, 1);
            Edge.refused(all, COPY, "copy", -1, 5, 1);
            Edge.refused(all, COPY, "copy", -1, 5, 0);
            Edge.refused(all, COPY, "copy", MIN, 5, 1);
        });
        Check.test("31 copy: j from 0, COPY below it", () -> {
            Edge.taken(all, 1, "copy", 5, 0, 1);
            Edge.refused(all, COPY, "copy", 5, -1, 1);
            Edge.refused(all, COPY, "copy", 5, -1, 0);
            Edge.refused(all, COPY, "copy", 5, MIN, 1);
        });
        Check.test("31 copy: i + n to 16, COPY above it", () -> {
            Edge.taken(all, 1, "copy", 15, 0, 1);
            Edge.taken(all, 0, "copy", 16, 0, 0);
            Edge.taken(all, 7, "copy", 9, 0, 7);
            Edge.refused(all, COPY, "copy", 16, 0, 1);
            Edge.refused(all, COPY, "copy", 17, 0, 0);
            Edge.refused(all, COPY, "copy", 9, 0, 8);
            Edge.refused(all, COPY, "copy", 1, 0, 16);
        });
        Check.test("31 copy: j + n to 16, COPY above it", () -> {
            Edge.taken(all, 1, "copy", 0, 15, 1);
            Edge.taken(all, 0, "copy", 0, 16, 0);
            Edge.taken(all, 7, "copy", 0, 9, 7);
            Edge.refused(all, COPY, "copy", 0, 16, 1);
            Edge.refused(all, COPY, "copy", 0, 17, 0);
            Edge.refused(all, COPY, "copy", 0, 9, 8);
            Edge.refused(all, COPY, "copy", 0, 1, 16);
        });
        Check.test("31 copy: as they were, where places overlap", () -> {
            Edge.taken(all, 15, "copy", 0, 1, 15);
            Edge.taken(all.then("copy", 0, 1, 15), 15, "row", 15);
            Edge.taken(all, 15, "copy", 1, 0, 15);
            Edge.taken(all.then("copy", 1, 0, 15), 16, "row", 14);
            Edge.taken(all, 9, "copy", 3, 3, 9);
        });
    }

    private static void copyWraps() {
        Check.test("31 copy: i + n does not wrap round", () -> {
            Edge.refused(SOME, COPY, "copy", MAX, 0, 1);
            Edge.refused(SOME, COPY, "copy", 1, 0, MAX);
            Edge.refused(SOME, COPY, "copy", MAX, 0, MAX);
            Edge.refused(SOME, COPY, "copy", MAX - 15, 0, 16);
            Edge.refused(SOME, COPY, "copy", MAX, 0, 0);
        });
        Check.test("31 copy: j + n does not wrap round", () -> {
            Edge.refused(SOME, COPY, "copy", 0, MAX, 1);
            Edge.refused(SOME, COPY, "copy", 0, 1, MAX);
            Edge.refused(SOME, COPY, "copy", 0, MAX, MAX);
            Edge.refused(SOME, COPY, "copy", 0, MAX - 15, 16);
            Edge.refused(SOME, COPY, "copy", 0, MAX, 0);
        });
        Check.test("31 copy: places far below 0 do not wrap round", () -> {
            Edge.refused(SOME, COPY, "copy", MIN, 0, MAX);
            Edge.refused(SOME, COPY, "copy", 0, MIN, MAX);
            Edge.refused(SOME, COPY, "copy", MIN, MIN, 0);
            Edge.refused(SOME, COPY, "copy", MIN + 1, 0, 16);
        });
    }

    private static void copyOrder() {
        Check.test("31 copy: MISSING is ahead of BELOW", () -> Edge.refused(TORN, MISSING, "copy", 0, 0, -1));
        Check.test("31 copy: MISSING is ahead of COPY", () -> {
            Edge.refused(TORN, MISSING, "copy", -1, 0, 1);
            Edge.refused(TORN, MISSING, "copy", 0, 0, 17);
        });
        Check.test("31 copy: BELOW is ahead of COPY", () -> {
            Edge.refused(SOME, BELOW, "copy", -1, 0, -1);
            Edge.refused(SOME, BELOW, "copy", 0, -1, -1);
            Edge.refused(SOME, BELOW, "copy", 17, 0, -1);
            Edge.refused(SOME, BELOW, "copy", 0, MAX, MIN);
        });
        Check.test("31 copy: all three, MISSING is first", () -> {
            Edge.refused(TORN, MISSING, "copy", -1, 17, -1);
            Edge.refused(NEW, MISSING, "copy", MAX, MIN, MIN);
        });
        Check.test("31 copy: i and j both COPY are counted once", () -> Edge.refused(SOME, COPY, "copy", -1, 17, 1));
    }

    private static void status() {
        Check.test("32 status: -8 .. -2, NO beyond", () -> {
            Edge.ends(SOME, NO, 0, -8, -2, "status", -3);
            Edge.refused(SOME, NO, "status", -1);
            Edge.refused(SOME, NO, "status", 0);
            Edge.refused(SOME, NO, "status", 2);
            Edge.refused(SOME, NO, "status", 8);
            Edge.refused(NEW, NO, "status", -9);
        });
        Check.test("32 status: it doesn't count itself, but where it is refused", () -> {
            Edge.taken(NEW.times(9, "status", NO), 0, "status", NO);
            Edge.taken(NEW.times(9, "status", 0), 9, "status", NO);
        });
        Check.test("32 status: NONE isn't counted", () -> {
            Edge.taken(NEW.table(0, Bench.row(1)).times(3, "low", 0, 1), 0, "status", MISSING);
            Edge.refused(NEW.table(0, Bench.row(1)).times(3, "low", 0, 1), NO, "status", Bench.NONE);
        });
    }

    private static void statusOfEach() {
        Check.test("32 status: of each answer, how many calls", () -> {
            Run some = NEW.times(1, "drop").times(2, "back", 0).row(1).times(3, "copy", 0, 0, -1)
                .table(0, Bench.row(1)).then("turn", 0, 0).times(4, "set", 1, 0, 0, 1)
                .times(5, "copy", 0, 0, 17).times(6, "turn", 0, 3).times(10, "table", 1, 1).times(7, "table", 1, 1);
            int[] by = {MISSING, BEYOND, BELOW, KIND, COPY, NO, FULL};
            for (int k = 0; k < by.length; k++) {
                Edge.taken(some, k + 1, "status", by[k]);
            }
        });
        Check.test("32 status: of those that tell 0, by what they tell", () -> {
            Run nought = NEW.then("set", 0, 0, 0, 0).then("at", 0, 0, 0).then("worth", 0, 1, 1).then("weight", 0, 1, 1)
                .then("making", 0, 0).then("row", 0);
            Edge.taken(nought, 5, "status", BEYOND);
            Edge.taken(nought, 1, "status", MISSING);
            Edge.taken(nought.then("tell", 0, 0).then("row", 16), 6, "status", BEYOND);
        });
    }
}

/** The edges that promises 1 to 14 name, a test for each. */
final class TableEdges {
    private static final int MISSING = Bench.MISSING;
    private static final int BEYOND = Bench.BEYOND;
    private static final int KIND = Bench.KIND;
    private static final int NO = Bench.NO;
    private static final int FULL = Bench.FULL;
    private static final Run NEW = Scene.NEW;
    private static final Run SOME = Scene.SOME;
    private static final Run NO_ROOM = Scene.NO_ROOM;

    private TableEdges() {
    }

    static void all() {
        newObject();
        table();
        set();
        at();
        look();
        drop();
        worth();
        low();
        count();
        product();
        sum();
        part();
        turn();
        same();
    }

    /** Each number of a TABLE in a call: those that are there, and the first that are not. */
    private static void tables(String name, int place, int... numbers) {
        Edge.taken(SOME, name, Edge.with(numbers, place, 0));
        Edge.taken(SOME, name, Edge.with(numbers, place, Scene.TABLES - 1));
        Edge.taken(NO_ROOM, name, Edge.with(numbers, place, 11));
        Edge.outside(SOME, BEYOND, place, 0, Scene.TABLES - 1, name, numbers);
        Edge.outside(NO_ROOM, BEYOND, place, 0, 11, name, numbers);
        Edge.refused(NEW, BEYOND, name, numbers);
    }

    private static void newObject() {
        Check.test("1 new: no TABLES", () -> {
            Edge.refused(NEW, MISSING, "drop");
            Edge.refused(NEW, BEYOND, "look", 0, 0);
            Edge.taken(NEW, 0, "table", 1, 1);
        });
        Check.test("1 new: no NETS", () -> {
            Edge.refused(NEW, MISSING, "unnet");
            Edge.refused(NEW, BEYOND, "back", 0);
            Edge.taken(NEW, 0, "net", 1);
        });
        Check.test("1 new: no call was refused", () -> {
            for (int by = -8; by <= -2; by++) {
                Edge.taken(NEW, 0, "status", by);
            }
        });
    }

    private static void table() {
        Check.test("2 table: all 0", () -> {
            Run used = NEW.table(0, Bench.row(9, 9, 9), Bench.row(9, 9, 9)).then("drop");
            Edge.taken(used, 0, "table", 5, 5);
            Edge.taken(used.then("table", 5, 5), 25 + 100 + 100 + 25 + 1, "count", 0, 0);
        });
        Check.test("2 table: NO below and above, of n and of m", () -> {
            Edge.outside(SOME, NO, 0, 1, 5, "table", 0, 3);
            Edge.outside(SOME, NO, 1, 1, 5, "table", 3, 0);
            Edge.refused(SOME, NO, "table", 0, 6);
        });
        Check.test("2 table: FULL, and room again", () -> {
            Edge.refused(NO_ROOM, FULL, "table", 1, 1);
            Edge.refused(NO_ROOM, FULL, "table", 5, 5);
            Edge.taken(NO_ROOM.then("drop"), 11, "table", 5, 5);
        });
        Check.test("2 table: NO is ahead of FULL", () -> {
            Edge.outside(NO_ROOM, NO, 0, 1, 5, "table", 0, 1);
            Edge.outside(NO_ROOM, NO, 1, 1, 5, "table", 1, 0);
        });
    }

    private static void set() {
        Check.test("3 set: BEYOND, TABLE", () -> tables("set", 0, 0, 0, 0, 5));
        Check.test("3 set: BEYOND, i", () -> {
            Edge.ends(SOME, BEYOND, 1, 0, 1, "set", Scene.PLAIN, 0, 1, 8);
            Edge.ends(SOME, BEYOND, 1, 0, 4, "set", Scene.WIDE, 0, 1, 8);
            Edge.ends(SOME, BEYOND, 1, 0, 0, "set", Scene.GREATEST, 0, 0, 8);
        });
        Check.test("3 set: BEYOND, j", () -> {
            Edge.ends(SOME, BEYOND, 2, 0, 2, "set", Scene.PLAIN, 1, 0, 8);
            Edge.ends(SOME, BEYOND, 2, 0, 4, "set", Scene.WIDE, 1, 0, 8);
            Edge.ends(SOME, BEYOND, 2, 0, 0, "set", Scene.GREATEST, 0, 0, 8);
        });
        Check.test("3 set: KIND, of each that isn't PLAIN", () -> {
            Edge.taken(SOME, 1, "set", Scene.PLAIN, 0, 0, 8);
            Edge.refused(SOME, KIND, "set", Scene.OF_NET, 0, 0, 8);
            Edge.refused(SOME, KIND, "set", Scene.BAND, 0, 0, 8);
            Edge.refused(SOME, KIND, "set", Scene.MADE, 0, 0, 8);
            Edge.refused(SOME.then("part", Scene.PLAIN, 3, 7), KIND, "set", Scene.TABLES, 0, 0, 8);
        });
        Check.test("3 set: NO, v", () -> Edge.ends(SOME, NO, 3, -1000, 1000, "set", Scene.PLAIN, 1, 2, 8));
        Check.test("3 set: the one before is no refusal, whatever it is", () -> {
            for (int v = -8; v <= 0; v++) {
                Edge.taken(SOME.then("set", Scene.PLAIN, 0, 0, v), v, "set", Scene.PLAIN, 0, 0, v - 1);
            }
        });
        Check.test("3 set: BEYOND is ahead of KIND", () -> {
            Edge.refused(SOME, BEYOND, "set", Scene.MADE, 3, 0, 8);
            Edge.refused(SOME, BEYOND, "set", Scene.OF_NET, 0, 3, 8);
            Edge.refused(SOME, BEYOND, "set", Scene.BAND, -1, 0, 8);
        });
        Check.test("3 set: BEYOND is ahead of NO", () -> {
            Edge.refused(SOME, BEYOND, "set", Scene.TABLES, 0, 0, 1001);
            Edge.refused(SOME, BEYOND, "set", Scene.PLAIN, 2, 0, 1001);
            Edge.refused(SOME, BEYOND, "set", Scene.PLAIN, 0, 3, -1001);
        });
        Check.test("3 set: KIND is ahead of NO", () -> {
            Edge.refused(SOME, KIND, "set", Scene.MADE, 0, 0, 1001);
            Edge.refused(SOME, KIND, "set", Scene.OF_NET, 0, 0, -1001);
            Edge.refused(SOME, KIND, "set", Scene.BAND, 0, 0, Bench.MIN);
        });
        Check.test("3 set: all three, BEYOND is first", () -> {
            Edge.refused(SOME, BEYOND, "set", Scene.MADE, 3, 0, 1001);
            Edge.refused(SOME, BEYOND, "set", Scene.BAND, 0, 2, -1001);
        });
    }

    private static void at() {
        Check.test("4 at: BEYOND, TABLE", () -> tables("at", 0, 0, 0, 0));
        Check.test("4 at: BEYOND, i", () -> {
            Edge.ends(SOME, BEYOND, 1, 0, 1, "at", Scene.PLAIN, 0, 1);
            Edge.ends(SOME, BEYOND, 1, 0, 4, "at", Scene.WIDE, 0, 4);
            Edge.ends(SOME, BEYOND, 1, 0, 2, "at", Scene.MADE, 0, 1);
        });
        Check.test("4 at: BEYOND, j", () -> {
            Edge.ends(SOME, BEYOND, 2, 0, 2, "at", Scene.PLAIN, 1, 0);
            Edge.ends(SOME, BEYOND, 2, 0, 4, "at", Scene.WIDE, 4, 0);
            Edge.ends(SOME, BEYOND, 2, 0, 1, "at", Scene.MADE, 1, 0);
        });
        Check.test("4 at: the greatest and the least number", () -> {
            Edge.taken(SOME, 1000, "at", Scene.GREATEST, 0, 0);
            Edge.taken(SOME, -1000, "at", Scene.LEAST, 0, 0);
        });
        Check.test("4 at: a number from -8 to 0 is no refusal", () -> {
            for (int v = -8; v <= 0; v++) {
                Edge.taken(NEW.table(0, Bench.row(v)), v, "at", 0, 0, 0);
            }
        });
    }

    private static void look() {
        Check.test("5 look: BEYOND, TABLE", () -> tables("look", 0, 0, 0));
        Check.test("5 look: what 0 .. 7 of a NET's, NO beyond", () -> {
            Edge.ends(SOME, NO, 1, 0, 7, "look", Scene.OF_NET, 0);
            for (int what = 0; what <= 7; what++) {
                Edge.taken(SOME, "look", Scene.OF_NET, what);
            }
        });
        Check.test("5 look: what 0 .. 6 of the others, NO beyond", () -> {
            for (int table : new int[] {Scene.PLAIN, Scene.BAND, Scene.MADE}) {
                for (int what = 0; what <= 6; what++) {
                    Edge.taken(SOME, "look", table, what);
                }
                Edge.outside(SOME, NO, 1, 0, 7, "look", table, 0);
            }
        });
        Check.test("5 look: KIND, the NET of one that no NET made", () -> {
            Edge.taken(SOME, Scene.NET, "look", Scene.OF_NET, 7);
            Edge.refused(SOME, KIND, "look", Scene.PLAIN, 7);
            Edge.refused(SOME, KIND, "look", Scene.BAND, 7);
            Edge.refused(SOME, KIND, "look", Scene.MADE, 7);
            Edge.refused(SOME.then("turn", Scene.OF_NET, 0), KIND, "look", Scene.TABLES, 7);
            Edge.refused(SOME.then("part", Scene.OF_NET, 7, 7), KIND, "look", Scene.TABLES, 7);
        });
        Check.test("5 look: the number that the NET had, 0 and 3", () -> {
            Run four = NEW.times(4, "net", 2);
            Edge.taken(four.then("made", 0), 0, "look", 0, 7);
            Edge.taken(four.then("made", 3), 3, "look", 0, 7);
            Edge.taken(four.then("made", 3).times(4, "unnet"), 3, "look", 0, 7);
            Edge.taken(four.then("made", 3).times(4, "unnet").then("net", 5), 3, "look", 0, 7);
        });
        Check.test("5 look: BEYOND is ahead of KIND", () -> {
            Edge.refused(SOME, BEYOND, "look", Scene.TABLES, 7);
            Edge.refused(NEW, BEYOND, "look", 0, 7);
        });
        Check.test("5 look: BEYOND is ahead of NO", () -> {
            Edge.refused(SOME, BEYOND, "look", Scene.TABLES, 8);
            Edge.refused(SOME, BEYOND, "look", -1, -1);
            Edge.refused(NEW, BEYOND, "look", 0, Bench.MAX);
        });
    }

    private static void drop() {
        Check.test("6 drop: the last of all, then MISSING", () -> {
            Edge.taken(Scene.tables(1), 0, "drop");
            Edge.refused(Scene.tables(1).then("drop"), MISSING, "drop");
            Edge.refused(NEW, MISSING, "drop");
        });
        Check.test("6 drop: of twelve", () -> {
            Edge.taken(NO_ROOM, 11, "drop");
            Edge.taken(NO_ROOM.times(11, "drop"), 0, "drop");
            Edge.refused(NO_ROOM.times(12, "drop"), MISSING, "drop");
        });
        Check.test("6 drop: the latest goes, and is BEYOND then", () -> {
            Edge.taken(SOME, 7, "drop");
            Edge.refused(SOME.then("drop"), BEYOND, "at", Scene.LEAST, 0, 0);
            Edge.taken(SOME.then("drop"), 7, "at", Scene.WIDE, 4, 4);
        });
    }

    private static void worth() {
        Check.test("7 worth: BEYOND, TABLE", () -> tables("worth", 0, 0, 1, 1));
        Check.test("7 worth: BEYOND, rows: bits beyond, none", () -> {
            Edge.taken(SOME, 1, "worth", Scene.PLAIN, 1, 1);
            Edge.taken(SOME, 4, "worth", Scene.PLAIN, 2, 1);
            Edge.outside(SOME, BEYOND, 1, 1, 3, "worth", Scene.PLAIN, 0, 1);
            Edge.outside(SOME, BEYOND, 1, 1, 31, "worth", Scene.WIDE, 0, 1);
            Edge.outside(SOME, BEYOND, 1, 1, 1, "worth", Scene.GREATEST, 0, 1);
            Edge.refused(SOME, BEYOND, "worth", Scene.PLAIN, 4, 1);
            Edge.refused(SOME, BEYOND, "worth", Scene.PLAIN, 5, 3);
        });
        Check.test("7 worth: BEYOND, columns: bits beyond, none", () -> {
            Edge.taken(SOME, 1, "worth", Scene.PLAIN, 1, 1);
            Edge.taken(SOME, 3, "worth", Scene.PLAIN, 1, 4);
            Edge.outside(SOME, BEYOND, 2, 1, 7, "worth", Scene.PLAIN, 1, 0);
            Edge.outside(SOME, BEYOND, 2, 1, 31, "worth", Scene.WIDE, 1, 0);
            Edge.outside(SOME, BEYOND, 2, 1, 1, "worth", Scene.GREATEST, 1, 0);
            Edge.refused(SOME, BEYOND, "worth", Scene.PLAIN, 1, 8);
            Edge.refused(SOME, BEYOND, "worth", Scene.PLAIN, 3, 9);
        });
        Check.test("7 worth: bits do not wrap round", () -> {
            Edge.refused(SOME, BEYOND, "worth", Scene.WIDE, 32, 1);
            Edge.refused(SOME, BEYOND, "worth", Scene.WIDE, 33, 1);
            Edge.refused(SOME, BEYOND, "worth", Scene.WIDE, 1, 1 << 31);
            Edge.refused(SOME, BEYOND, "worth", Scene.WIDE, (1 << 31) + 1, 1);
            Edge.taken(SOME, 0, "worth", Scene.WIDE, 31, 31);
            Edge.taken(SOME, -72, "worth", Scene.WIDE, 17, 17);
        });
        Check.test("7 worth: NO, unlike many", () -> {
            Edge.refused(SOME, NO, "worth", Scene.PLAIN, 3, 1);
            Edge.refused(SOME, NO, "worth", Scene.PLAIN, 1, 3);
            Edge.refused(SOME, NO, "worth", Scene.PLAIN, 3, 7);
            Edge.refused(SOME, NO, "worth", Scene.WIDE, 31, 30);
            Edge.refused(SOME, NO, "worth", Scene.WIDE, 16, 31);
            Edge.taken(SOME, -3, "worth", Scene.PLAIN, 3, 3);
        });
        Check.test("7 worth: BEYOND is ahead of NO", () -> {
            Edge.refused(SOME, BEYOND, "worth", Scene.TABLES, 3, 1);
            Edge.refused(SOME, BEYOND, "worth", Scene.PLAIN, 0, 1);
            Edge.refused(SOME, BEYOND, "worth", Scene.PLAIN, 3, 0);
            Edge.refused(SOME, BEYOND, "worth", Scene.PLAIN, 7, 1);
            Edge.refused(SOME, BEYOND, "worth", Scene.PLAIN, 1, 15);
        });
        Check.test("7 worth: 0 and numbers below it are no refusals", () -> {
            for (int v = -8; v <= 0; v++) {
                Edge.taken(NEW.table(0, Bench.row(v)), v, "worth", 0, 1, 1);
            }
        });
    }

    private static void low() {
        Check.test("8 low: BEYOND", () -> {
            tables("low", 0, 0, 0);
            tables("low", 0, 0, 1);
        });
        Check.test("8 low: below 0, not strict: -1 is, 0 isn't", () -> {
            Edge.taken(NEW.table(0, Bench.row(-1)), 33, "low", 0, 0);
            Edge.taken(NEW.table(0, Bench.row(0)), Bench.NONE, "low", 0, 0);
            Edge.taken(NEW.table(0, Bench.row(1)), Bench.NONE, "low", 0, 0);
        });
        Check.test("8 low: not above 0, strict: 0 is, 1 isn't", () -> {
            Edge.taken(NEW.table(0, Bench.row(-1)), 33, "low", 0, 1);
            Edge.taken(NEW.table(0, Bench.row(0)), 33, "low", 0, 1);
            Edge.taken(NEW.table(0, Bench.row(1)), Bench.NONE, "low", 0, 1);
        });
        Check.test("8 low: the last PART of all", () -> {
            Run last = NEW.table(0, Bench.row(1, 1), Bench.row(2, 1));
            Edge.taken(last, 32 * 3 + 3, "low", 0, 0);
            Edge.taken(NEW.table(0, Bench.row(1, 1, 1, 1, -1)), 32 + 16, "low", 0, 0);
            Edge.taken(NEW.table(0, Bench.row(1), Bench.row(1), Bench.row(1), Bench.row(1), Bench.row(0)),
                32 * 16 + 1, "low", 0, 1);
        });
    }

    private static void count() {
        Check.test("9 count: BEYOND", () -> {
            tables("count", 0, 0, -1);
            tables("count", 0, 0, 0);
            tables("count", 0, 0, 1);
        });
        Check.test("9 count: signs -1 .. 1, NO beyond", () -> {
            Edge.ends(SOME, NO, 1, -1, 1, "count", Scene.PLAIN, 0);
            Edge.taken(SOME, 0, "count", Scene.PLAIN, 0);
        });
        Check.test("9 count: -1, 0 and 1 belong to their own sign", () -> {
            Run three = NEW.table(0, Bench.row(-1, 0, 1));
            for (int sign = -1; sign <= 1; sign++) {
                Edge.taken(three, 1, "count", 0, sign);
            }
        });
        Check.test("9 count: the fewest PARTS and the most", () -> {
            Edge.taken(NEW.then("table", 1, 1), 1, "count", 0, 0);
            Edge.taken(NEW.then("table", 5, 1), 5, "count", 0, 0);
            Edge.taken(NEW.then("table", 5, 5), 251, "count", 0, 0);
            Edge.taken(NEW.then("table", 5, 5), 0, "count", 0, 1);
        });
        Check.test("9 count: BEYOND is ahead of NO", () -> {
            Edge.refused(SOME, BEYOND, "count", Scene.TABLES, 2);
            Edge.refused(SOME, BEYOND, "count", -1, -2);
            Edge.refused(NEW, BEYOND, "count", 0, 2);
        });
    }


    private static void product() {
        Check.test("10 product: BEYOND, either TABLE", () -> {
            Edge.taken(SOME, 8, "product", 0, 1);
            Edge.taken(SOME.then("set", 7, 0, 0, -1), 8, "product", 7, 5);
            Edge.taken(SOME.then("set", 7, 0, 0, -1), 8, "product", 5, 7);
            Edge.outside(SOME, BEYOND, 0, 0, 7, "product", 0, Scene.STRICT);
            Edge.outside(SOME, BEYOND, 1, 0, 7, "product", Scene.PLAIN, 0);
            Edge.refused(SOME, BEYOND, "product", 8, 8);
            Edge.refused(NEW, BEYOND, "product", 0, 0);
        });
        Check.test("10 product: NO, columns of the first, rows of the other", () -> {
            Edge.taken(SOME, 8, "product", Scene.PLAIN, Scene.MADE);
            Edge.taken(SOME, 8, "product", Scene.MADE, Scene.PLAIN);
            Edge.refused(SOME, NO, "product", Scene.PLAIN, Scene.PLAIN);
            Edge.refused(SOME, NO, "product", Scene.MADE, Scene.MADE);
            Edge.refused(SOME, NO, "product", Scene.STRICT, Scene.PLAIN);
            Edge.refused(SOME, NO, "product", Scene.GREATEST, Scene.WIDE);
            Edge.refused(SOME, NO, "product", Scene.WIDE, Scene.GREATEST);
        });
        Check.test("10 product: FULL, no room, and room again", () -> {
            Edge.refused(NO_ROOM, FULL, "product", Scene.PLAIN, Scene.STRICT);
            Edge.taken(NO_ROOM.then("drop"), 11, "product", Scene.PLAIN, Scene.STRICT);
        });
        Check.test("10 product: FULL, 1000 comes and 1001 doesn't", () -> {
            Run pair = NEW.table(0, Bench.row(10, 1), Bench.row(1, 1)).table(1, Bench.row(100, 1), Bench.row(0, 1));
            Edge.taken(pair, 2, "product", 0, 1);
            Edge.refused(pair.then("set", 1, 1, 0, 1), FULL, "product", 0, 1);
        });
        Check.test("10 product: FULL, -1000 comes and -1001 doesn't", () -> {
            Run pair = NEW.table(0, Bench.row(1, 1), Bench.row(1, 10)).table(1, Bench.row(1, 0), Bench.row(1, -100));
            Edge.taken(pair, 2, "product", 0, 1);
            Edge.refused(pair.then("set", 1, 0, 1, -1), FULL, "product", 0, 1);
        });
        Check.test("10 product: a sum on the way may be beyond 1000", () -> {
            Run pair = NEW.table(0, Bench.row(1000, 1000)).table(1, Bench.row(1000), Bench.row(-1000));
            Edge.taken(pair, 2, "product", 0, 1);
            Edge.taken(pair.then("product", 0, 1), 0, "at", 2, 0, 0);
        });
        Check.test("10 product: BEYOND is ahead of NO and FULL", () -> {
            Edge.refused(NO_ROOM, BEYOND, "product", 12, Scene.PLAIN);
            Edge.refused(NO_ROOM, BEYOND, "product", Scene.PLAIN, 12);
            Edge.refused(NO_ROOM, BEYOND, "product", -1, -1);
        });
        Check.test("10 product: NO is ahead of FULL", () -> {
            Edge.refused(NO_ROOM, NO, "product", Scene.PLAIN, Scene.PLAIN);
            Run great = NEW.table(0, Bench.row(1000, 1000)).table(1, Bench.row(1000, 1000));
            Edge.refused(great, NO, "product", 0, 1);
        });
        Check.test("10 product: FULL twice over, and counted once", () -> {
            Edge.refused(SOME, FULL, "product", Scene.GREATEST, Scene.LEAST);
            Edge.refused(NO_ROOM, FULL, "product", Scene.GREATEST, Scene.LEAST);
        });
    }

    private static void sum() {
        Check.test("11 sum: BEYOND, either TABLE", () -> {
            Edge.taken(SOME, 8, "sum", 0, 0);
            Edge.taken(SOME, 8, "sum", 5, 7);
            Edge.outside(SOME, BEYOND, 0, 0, 7, "sum", 0, Scene.PLAIN);
            Edge.outside(SOME, BEYOND, 1, 0, 7, "sum", Scene.PLAIN, 0);
            Edge.refused(SOME, BEYOND, "sum", 8, 8);
            Edge.refused(NEW, BEYOND, "sum", 0, 0);
        });
        Check.test("11 sum: NO, not alike in rows, in columns", () -> {
            Run sizes = NEW.then("table", 2, 3).then("table", 3, 3).then("table", 2, 2).then("table", 3, 2)
                .then("table", 2, 3);
            Edge.taken(sizes, 5, "sum", 0, 4);
            Edge.refused(sizes, NO, "sum", 0, 1);
            Edge.refused(sizes, NO, "sum", 1, 0);
            Edge.refused(sizes, NO, "sum", 0, 2);
            Edge.refused(sizes, NO, "sum", 2, 0);
            Edge.refused(sizes, NO, "sum", 0, 3);
        });
        Check.test("11 sum: FULL, no room, and room again", () -> {
            Edge.refused(NO_ROOM, FULL, "sum", Scene.PLAIN, Scene.PLAIN);
            Edge.taken(NO_ROOM.then("drop"), 11, "sum", Scene.PLAIN, Scene.PLAIN);
        });
        Check.test("11 sum: FULL, 1000 comes and 1001 doesn't", () -> {
            Run pair = NEW.table(0, Bench.row(1, 1000)).table(1, Bench.row(999, 0));
            Edge.taken(pair, 2, "sum", 0, 1);
            Edge.refused(pair.then("set", 1, 0, 0, 1000), FULL, "sum", 0, 1);
            Edge.refused(pair.then("set", 1, 0, 1, 1), FULL, "sum", 0, 1);
        });
        Check.test("11 sum: FULL, -1000 comes and -1001 doesn't", () -> {
            Run pair = NEW.table(0, Bench.row(-1, -1000)).table(1, Bench.row(-999, 0));
            Edge.taken(pair, 2, "sum", 0, 1);
            Edge.refused(pair.then("set", 1, 0, 0, -1000), FULL, "sum", 0, 1);
            Edge.refused(pair.then("set", 1, 0, 1, -1), FULL, "sum", 0, 1);
        });
        Check.test("11 sum: BEYOND is ahead of NO and FULL", () -> {
            Edge.refused(NO_ROOM, BEYOND, "sum", 12, Scene.PLAIN);
            Edge.refused(NO_ROOM, BEYOND, "sum", Scene.STRICT, -1);
        });
        Check.test("11 sum: NO is ahead of FULL", () -> {
            Edge.refused(NO_ROOM, NO, "sum", Scene.PLAIN, Scene.STRICT);
            Edge.refused(NEW.table(0, Bench.row(1000)).table(1, Bench.row(1000, 1)), NO, "sum", 0, 1);
        });
        Check.test("11 sum: FULL twice over, and counted once", () -> {
            Edge.refused(SOME, FULL, "sum", Scene.GREATEST, Scene.GREATEST);
            Edge.refused(SOME, FULL, "sum", Scene.LEAST, Scene.LEAST);
            Edge.refused(NO_ROOM, FULL, "sum", Scene.GREATEST, Scene.GREATEST);
        });
    }

    private static void part() {
        Check.test("12 part: BEYOND, TABLE", () -> {
            Edge.taken(SOME, 8, "part", 0, 1, 1);
            Edge.taken(SOME, 8, "part", 7, 1, 1);
            Edge.outside(SOME, BEYOND, 0, 0, 7, "part", 0, 1, 1);
            Edge.refused(NEW, BEYOND, "part", 0, 1, 1);
        });
        Check.test("12 part: rows, one at least, all at most", () -> {
            Edge.ends(SOME, BEYOND, 1, 1, 3, "part", Scene.PLAIN, 0, 5);
            Edge.ends(SOME, BEYOND, 1, 1, 31, "part", Scene.WIDE, 0, 5);
            Edge.ends(SOME, BEYOND, 1, 1, 1, "part", Scene.GREATEST, 0, 1);
            Edge.refused(SOME, BEYOND, "part", Scene.PLAIN, 5, 1);
        });
        Check.test("12 part: columns, one at least, all at most", () -> {
            Edge.ends(SOME, BEYOND, 2, 1, 7, "part", Scene.PLAIN, 3, 0);
            Edge.ends(SOME, BEYOND, 2, 1, 31, "part", Scene.WIDE, 3, 0);
            Edge.ends(SOME, BEYOND, 2, 1, 1, "part", Scene.GREATEST, 1, 0);
            Edge.refused(SOME, BEYOND, "part", Scene.PLAIN, 1, 9);
        });
        Check.test("12 part: unlike many rows and columns are no refusal", () -> {
            Edge.taken(SOME, 8, "part", Scene.WIDE, 31, 16);
            Edge.taken(SOME, 8, "part", Scene.WIDE, 16, 31);
        });
        Check.test("12 part: bits do not wrap round", () -> {
            Edge.refused(SOME, BEYOND, "part", Scene.WIDE, 33, 1);
            Edge.refused(SOME, BEYOND, "part", Scene.WIDE, 1, (1 << 31) + 1);
        });
        Check.test("12 part: FULL, no room, and room again", () -> {
            Edge.refused(NO_ROOM, FULL, "part", Scene.PLAIN, 1, 1);
            Edge.taken(NO_ROOM.then("drop"), 11, "part", Scene.PLAIN, 3, 7);
        });
        Check.test("12 part: BEYOND is ahead of FULL", () -> {
            Edge.refused(NO_ROOM, BEYOND, "part", 12, 1, 1);
            Edge.refused(NO_ROOM, BEYOND, "part", Scene.PLAIN, 0, 1);
            Edge.refused(NO_ROOM, BEYOND, "part", Scene.PLAIN, 1, 0);
            Edge.refused(NO_ROOM, BEYOND, "part", Scene.PLAIN, 4, 1);
            Edge.refused(NO_ROOM, BEYOND, "part", Scene.PLAIN, 1, 8);
        });
    }

    private static void turn() {
        Check.test("13 turn: BEYOND", () -> {
            Edge.taken(SOME, 8, "turn", 0, 0);
            Edge.taken(SOME, 8, "turn", 7, 0);
            Edge.outside(SOME, BEYOND, 0, 0, 7, "turn", 0, 0);
            Edge.refused(NEW, BEYOND, "turn", 0, 0);
        });
        Check.test("13 turn: how 0 .. 2, NO beyond", () -> {
            Edge.ends(SOME, NO, 1, 0, 2, "turn", Scene.PLAIN, 0);
            Edge.taken(SOME, 8, "turn", Scene.PLAIN, 1);
        });
        Check.test("13 turn: the smallest and the greatest TABLE", () -> {
            for (int how = 0; how <= 2; how++) {
                Edge.taken(SOME, 8, "turn", Scene.GREATEST, how);
                Edge.taken(SOME, 8, "turn", Scene.WIDE, how);
            }
        });
        Check.test("13 turn: FULL, no room, and room again", () -> {
            for (int how = 0; how <= 2; how++) {
                Edge.refused(NO_ROOM, FULL, "turn", Scene.PLAIN, how);
                Edge.taken(NO_ROOM.then("drop"), 11, "turn", Scene.PLAIN, how);
            }
        });
        Check.test("13 turn: BEYOND is ahead of NO", () -> {
            Edge.refused(SOME, BEYOND, "turn", 8, 3);
            Edge.refused(SOME, BEYOND, "turn", -1, -1);
        });
        Check.test("13 turn: BEYOND is ahead of FULL", () -> Edge.refused(NO_ROOM, BEYOND, "turn", 12, 0));
        Check.test("13 turn: NO is ahead of FULL", () -> {
            Edge.refused(NO_ROOM, NO, "turn", Scene.PLAIN, 3);
            Edge.refused(NO_ROOM, NO, "turn", Scene.PLAIN, -1);
        });
        Check.test("13 turn: all three, BEYOND is first", () -> Edge.refused(NO_ROOM, BEYOND, "turn", 12, 3));
    }

    private static void same() {
        Check.test("14 same: BEYOND, either TABLE", () -> {
            Edge.taken(SOME, 1, "same", 0, 0);
            Edge.taken(SOME, 1, "same", 7, 7);
            Edge.outside(SOME, BEYOND, 0, 0, 7, "same", 0, Scene.PLAIN);
            Edge.outside(SOME, BEYOND, 1, 0, 7, "same", Scene.PLAIN, 0);
            Edge.refused(SOME, BEYOND, "same", 8, 8);
            Edge.refused(NEW, BEYOND, "same", 0, 0);
        });
        Check.test("14 same: not alike in rows, in columns, and no refusal", () -> {
            Run sizes = NEW.then("table", 2, 3).then("table", 3, 3).then("table", 2, 2).then("table", 3, 2);
            for (int other = 1; other <= 3; other++) {
                Edge.taken(sizes, 0, "same", 0, other);
                Edge.taken(sizes, 0, "same", other, 0);
            }
        });
        Check.test("14 same: one number differs by 1, at each place", () -> {
            for (int place = 0; place < 6; place++) {
                Run two = NEW.then("table", 2, 3).then("table", 2, 3).then("set", 1, place / 3, place % 3, 1);
                Edge.taken(two, 0, "same", 0, 1);
                Edge.taken(two.then("set", 0, place / 3, place % 3, 1), 1, "same", 0, 1);
            }
        });
        Check.test("14 same: of other KINDS", () -> {
            Edge.taken(NEW.then("table", 2, 2).then("turn", 0, 2), 1, "same", 0, 1);
            Run three = NEW.then("net", 2).then("made", 0).row(1).then("band", 2, 1);
            Edge.taken(three, 1, "same", 0, 1);
        });
    }
}

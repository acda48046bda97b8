/** The edges that promises 23 to 27 name, a test for each. */
final class SignEdges {
    private static final int MISSING = Bench.MISSING;
    private static final int BEYOND = Bench.BEYOND;
    private static final int NO = Bench.NO;
    private static final int FULL = Bench.FULL;
    private static final Run NEW = Scene.NEW;
    private static final Run SOME = Scene.SOME;
    private static final Run TORN = Scene.TORN;
    private static final Run NO_ROOM = Scene.NO_ROOM;
    private static final Run NO_ROOM_TORN = Scene.NO_ROOM_TORN;

    private SignEdges() {
    }

    static void all() {
        tell();
        changes();
        band();
        make();
        making();
    }

    private static void tell() {
        Check.test("23 tell: i 0 .. 15, BEYOND after", () -> {
            Edge.ends(SOME, BEYOND, 0, 0, 15, "tell", 3, 8);
            Edge.ends(NEW, BEYOND, 0, 0, 15, "tell", 3, 8);
        });
        Check.test("23 tell: v, NO beyond 1000", () -> {
            Edge.ends(SOME, NO, 1, -1000, 1000, "tell", 15, 8);
            Edge.ends(NEW, NO, 1, -1000, 1000, "tell", 0, 8);
        });
        Check.test("23 tell: THE ROW is there then, others 0", () -> {
            Edge.taken(TORN, 1, "tell", 3, 8);
            Run told = TORN.then("tell", 3, 8);
            Edge.taken(told, 0, "row", 0);
            Edge.taken(told, 8, "row", 3);
            Edge.taken(told, 0, "row", 15);
            Edge.taken(told, 1, "tear");
        });
        Check.test("23 tell: others stay, if it was there", () -> Edge.taken(SOME.then("tell", 3, 8), -1000, "row", 15));
        Check.test("23 tell: refused, THE ROW is missing still", () -> {
            Edge.refused(TORN, BEYOND, "tell", 16, 8);
            Edge.refused(TORN, NO, "tell", 0, 1001);
            Edge.taken(TORN.then("tell", 16, 8).then("tell", 0, 1001), 0, "tear");
        });
        Check.test("23 tell: BEYOND is ahead of NO", () -> {
            Edge.refused(SOME, BEYOND, "tell", 16, 1001);
            Edge.refused(SOME, BEYOND, "tell", -1, -1001);
            Edge.refused(TORN, BEYOND, "tell", 16, 1001);
        });
    }

    private static void changes() {
        Check.test("24 changes: BEYOND", () -> {
            Edge.taken(SOME, "changes", 0);
            Edge.taken(SOME, "changes", 7);
            Edge.taken(NO_ROOM, "changes", 11);
            Edge.outside(SOME, BEYOND, 0, 0, 7, "changes", 0);
            Edge.outside(NO_ROOM, BEYOND, 0, 0, 11, "changes", 0);
        });
        Check.test("24 changes: MISSING, THE ROW", () -> {
            Edge.refused(TORN, MISSING, "changes", 0);
            Edge.refused(NEW.then("table", 1, 1), MISSING, "changes", 0);
            Edge.taken(TORN.then("tell", 15, 0), 0, "changes", 0);
        });
        Check.test("24 changes: asked again, nothing is left of the one before", () -> {
            Run great = NEW.table(0, Bench.row(1, 0), Bench.row(0, 1)).row(1000, -1000).then("changes", 0);
            Edge.taken(great, 11, "changes", 0);
            Edge.taken(great.then("tell", 1, 1), 0, "changes", 0);
        });
        Check.test("24 changes: BEYOND is ahead of MISSING", () -> {
            Edge.refused(TORN, BEYOND, "changes", 8);
            Edge.refused(TORN, BEYOND, "changes", -1);
            Edge.refused(NEW, BEYOND, "changes", 0);
        });
    }

    private static void band() {
        Check.test("25 band: MISSING", () -> {
            Edge.refused(TORN, MISSING, "band", 2, 2);
            Edge.refused(NEW, MISSING, "band", 1, 1);
            Edge.taken(TORN.then("tell", 15, 0), 8, "band", 2, 2);
        });
        Check.test("25 band: n 1 .. 5, NO beyond", () -> Edge.ends(SOME, NO, 0, 1, 5, "band", 0, 2));
        Check.test("25 band: k 1 .. 5, NO beyond", () -> Edge.ends(SOME, NO, 1, 1, 5, "band", 2, 0));
        Check.test("25 band: FULL, no room, and room again", () -> {
            Edge.refused(NO_ROOM, FULL, "band", 2, 2);
            Edge.taken(NO_ROOM.then("drop"), 11, "band", 2, 2);
        });
        Check.test("25 band: numbers of 1000 and -1000 come", () -> {
            Run ends = NEW.row(1000, -1000);
            Edge.taken(ends, 0, "band", 5, 5);
            Edge.taken(ends.then("band", 5, 5), -1000, "at", 0, 3, 4);
        });
        Check.test("25 band: MISSING is ahead of NO", () -> {
            Edge.refused(TORN, MISSING, "band", 0, 2);
            Edge.refused(TORN, MISSING, "band", 2, 6);
        });
        Check.test("25 band: MISSING is ahead of FULL", () -> Edge.refused(NO_ROOM_TORN, MISSING, "band", 2, 2));
        Check.test("25 band: NO is ahead of FULL", () -> {
            Edge.outside(NO_ROOM, NO, 0, 1, 5, "band", 0, 2);
            Edge.outside(NO_ROOM, NO, 1, 1, 5, "band", 2, 0);
        });
        Check.test("25 band: all three, MISSING is first", () -> Edge.refused(NO_ROOM_TORN, MISSING, "band", 6, 0));
        Check.test("25 band: n and k both NO are counted once", () -> Edge.refused(SOME, NO, "band", 0, 6));
    }

    private static void make() {
        Check.test("26 make: BEYOND", () -> {
            Edge.taken(SOME, 9, "make", Scene.STRICT);
            Edge.taken(SOME, 0, "make", Scene.LEAST);
            Edge.outside(SOME, BEYOND, 0, 0, 7, "make", 0);
            Edge.outside(NO_ROOM, BEYOND, 0, 0, 11, "make", 0);
            Edge.refused(NEW, BEYOND, "make", 0);
        });
        Check.test("26 make: NO, rows and columns not as many", () -> {
            Edge.refused(SOME, NO, "make", Scene.PLAIN);
            Edge.refused(SOME, NO, "make", Scene.MADE);
            Edge.refused(NEW.then("table", 1, 2), NO, "make", 0);
            Edge.refused(NEW.then("table", 2, 1), NO, "make", 0);
            Edge.refused(NEW.then("table", 3, 4), NO, "make", 0);
            Edge.refused(NEW.then("table", 4, 3), NO, "make", 0);
        });
        Check.test("26 make: 1 .. 3 rows, NO above 3", () -> {
            for (int n = 1; n <= 3; n++) {
                Edge.taken(NEW.then("net", n).then("made", 0), n, "make", 0);
            }
            for (int n = 4; n <= 5; n++) {
                Edge.refused(NEW.then("net", n).then("made", 0), NO, "make", 0);
            }
        });
        Check.test("26 make: NO twice over, and counted once", () -> {
            Edge.refused(NEW.then("table", 4, 5), NO, "make", 0);
            Edge.refused(NEW.then("table", 5, 4), NO, "make", 0);
        });
        Check.test("26 make: 0 is no refusal, and has no STEPS", () -> {
            Edge.taken(SOME, 0, "make", Scene.LEAST);
            Edge.refused(SOME.then("make", Scene.LEAST), BEYOND, "making", 0, 0);
        });
        Check.test("26 make: refused, the STEPS of the latest stay", () -> {
            Run refused = SOME.then("make", Scene.PLAIN).then("make", Scene.WIDE).then("make", 8);
            Edge.taken(refused, 1, "making", 0, 0);
            Edge.taken(refused, 2, "making", 8, 0);
            Edge.taken(refused, 1, "making", 8, 2);
        });
    }

    private static void making() {
        Run two = NEW.table(0, Bench.row(3, 0), Bench.row(0, 5)).then("make", 0);
        Check.test("27 making: STEPS 0 .. 8 of nine, BEYOND after", () -> Edge.ends(SOME, BEYOND, 0, 0, 8, "making", 0, 0));
        Check.test("27 making: STEPS 0 and 1 of two, BEYOND after", () -> Edge.ends(two, BEYOND, 0, 0, 1, "making", 0, 2));
        Check.test("27 making: STEPS of a longer one before are gone", () -> {
            Run shorter = SOME.then("make", Scene.GREATEST);
            Edge.ends(shorter, BEYOND, 0, 0, 0, "making", 0, 2);
            Edge.taken(shorter, 1000, "making", 0, 2);
        });
        Check.test("27 making: BEYOND ahead of any make()", () -> {
            Edge.refused(NEW, BEYOND, "making", 0, 0);
            Edge.refused(NEW.then("table", 2, 3).then("make", 0), BEYOND, "making", 0, 0);
        });
        Check.test("27 making: what 0 .. 3, NO beyond", () -> {
            Edge.ends(SOME, NO, 1, 0, 3, "making", 0, 0);
            Edge.ends(SOME, NO, 1, 0, 3, "making", 8, 0);
        });
        Check.test("27 making: BEYOND is ahead of NO", () -> {
            Edge.refused(SOME, BEYOND, "making", 9, 4);
            Edge.refused(SOME, BEYOND, "making", -1, -1);
            Edge.refused(NEW, BEYOND, "making", 0, 4);
        });
        Check.test("27 making: kind 0, LINE 0 are no refusals", () -> {
            Run up = NEW.table(0, Bench.row(2, 3), Bench.row(0, 1)).then("make", 0);
            Edge.taken(up, 0, "making", 0, 0);
            Edge.taken(up, 0, "making", 0, 1);
            Edge.taken(up, 3, "making", 0, 2);
            Edge.taken(up, 2, "making", 0, 3);
        });
        Check.test("27 making: stays when its TABLE changes or goes", () -> {
            Edge.taken(two.then("set", 0, 0, 0, 9), 3, "making", 0, 2);
            Edge.taken(two.then("drop"), 5, "making", 1, 2);
        });
    }
}

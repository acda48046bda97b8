/** The edges that promises 15 to 22 name, a test for each. */
final class NetEdges {
    private static final int MISSING = Bench.MISSING;
    private static final int BEYOND = Bench.BEYOND;
    private static final int NO = Bench.NO;
    private static final int FULL = Bench.FULL;
    private static final int UP = 0;
    private static final int DOWN = 1;
    private static final int ON = 2;
    /** What told is for STEP s and FAMILY 0. */
    private static final int STEP = 1 << 20;
    private static final Run NEW = Scene.NEW;
    private static final Run SOME = Scene.SOME;
    private static final Run NO_ROOM = Scene.NO_ROOM;

    private NetEdges() {
    }

    static void all() {
        net();
        step();
        back();
        made();
        likeFamilies("19 families", "families", 1, 1, 1);
        families();
        likeFamilies("20 weight", "weight", 1, 1, 1);
        weight();
        likeFamilies("21 family", "family", 1, 1, 1, 0);
        family();
        familyOrder();
        unnet();
    }

    /** Each number of a NET in a call: those that are there, and the first that are not. */
    private static void nets(String name, int... numbers) {
        Edge.taken(SOME, name, Edge.with(numbers, 0, 0));
        Edge.outside(SOME, BEYOND, 0, 0, Scene.NETS - 1, name, numbers);
        Edge.taken(SOME.then("net", 5).then("step", 3, ON, 0, 2), name, Edge.with(numbers, 0, 3));
        Edge.outside(NO_ROOM, BEYOND, 0, 0, 3, name, numbers);
        Edge.refused(NEW, BEYOND, name, numbers);
    }

    private static void net() {
        Check.test("15 net: LINES 1 .. 5, NO beyond", () -> {
            for (int n = 1; n <= 5; n++) {
                Edge.taken(SOME, 3, "net", n);
            }
            Edge.outside(SOME, NO, 0, 1, 5, "net", 0);
        });
        Check.test("15 net: FULL, and room again", () -> {
            Edge.refused(NO_ROOM, FULL, "net", 1);
            Edge.refused(NO_ROOM, FULL, "net", 5);
            Edge.taken(NO_ROOM.then("unnet"), 3, "net", 5);
        });
        Check.test("15 net: NO is ahead of FULL", () -> Edge.outside(NO_ROOM, NO, 0, 1, 5, "net", 0));
        Check.test("15 net: it has no STEPS, whatever was there before", () -> {
            Run used = NEW.then("net", 2).then("step", 0, UP, 0, 7).then("unnet").then("net", 3);
            Edge.refused(used, MISSING, "back", 0);
            Edge.taken(used, 0, "weight", 0, 1, 2);
            Edge.taken(used, 1, "step", 0, UP, 1, 5);
        });
        Check.test("15 net: no room for TABLES is room for NETS", () -> Edge.taken(Scene.tables(12), 0, "net", 5));
    }

    private static void step() {
        Check.test("16 step: BEYOND, NET", () -> {
            Edge.taken(SOME, 4, "step", 0, ON, 0, 1);
            Edge.taken(SOME.then("net", 2), 1, "step", 3, ON, 0, 1);
            Edge.outside(SOME, BEYOND, 0, 0, 2, "step", 0, ON, 0, 1);
            Edge.outside(NO_ROOM, BEYOND, 0, 0, 3, "step", 0, ON, 0, 1);
            Edge.refused(NEW, BEYOND, "step", 0, ON, 0, 1);
        });
        Check.test("16 step: kind, NO beyond", () -> Edge.ends(SOME, NO, 1, 0, 2, "step", Scene.NET, 0, 0, 1));
        Check.test("16 step: i of UP, NO beyond", () -> Edge.ends(SOME, NO, 2, 0, 1, "step", Scene.NET, UP, 0, 2));
        Check.test("16 step: i of DOWN, NO beyond", () -> Edge.ends(SOME, NO, 2, 0, 1, "step", Scene.NET, DOWN, 0, 2));
        Check.test("16 step: i of ON, NO beyond", () -> Edge.ends(SOME, NO, 2, 0, 2, "step", Scene.NET, ON, 0, 2));
        Check.test("16 step: of one LINE there is ON alone", () -> {
            Edge.taken(SOME, 1, "step", Scene.BARE, ON, 0, 9);
            Edge.refused(SOME, NO, "step", Scene.BARE, ON, 1, 9);
            Edge.refused(SOME, NO, "step", Scene.BARE, UP, 0, 9);
            Edge.refused(SOME, NO, "step", Scene.BARE, DOWN, 0, 9);
            Edge.refused(SOME, NO, "step", Scene.BARE, UP, -1, 9);
        });
        Check.test("16 step: weight, NO beyond", () -> Edge.ends(SOME, NO, 3, 1, 9, "step", Scene.NET, UP, 0, 2));
        Check.test("16 step: FULL at 16, and room again", () -> {
            Edge.refused(SOME, FULL, "step", Scene.LONG, ON, 0, 2);
            Edge.refused(SOME, FULL, "step", Scene.LONG, UP, 3, 2);
            Edge.refused(SOME, FULL, "step", Scene.LONG, DOWN, 0, 2);
            Edge.taken(SOME.then("back", Scene.LONG), 16, "step", Scene.LONG, DOWN, 3, 9);
        });
        Check.test("16 step: a full NET leaves room in another", () -> {
            Edge.taken(SOME, 4, "step", Scene.NET, DOWN, 0, 9);
            Edge.taken(NO_ROOM, 1, "step", Scene.BARE, ON, 0, 9);
        });
        Check.test("16 step: BEYOND is ahead of NO", () -> {
            Edge.refused(SOME, BEYOND, "step", 3, 3, 0, 1);
            Edge.refused(SOME, BEYOND, "step", -1, ON, -1, 1);
            Edge.refused(SOME, BEYOND, "step", 3, ON, 0, 0);
            Edge.refused(NEW, BEYOND, "step", 0, 3, 9, 10);
        });
        Check.test("16 step: NO is ahead of FULL, of kind, of i, of weight", () -> {
            Edge.outside(SOME, NO, 1, 0, 2, "step", Scene.LONG, 0, 0, 1);
            Edge.outside(SOME, NO, 2, 0, 4, "step", Scene.LONG, ON, 0, 1);
            Edge.refused(SOME, NO, "step", Scene.LONG, UP, 4, 1);
            Edge.outside(SOME, NO, 3, 1, 9, "step", Scene.LONG, ON, 0, 0);
        });
        Check.test("16 step: two that are NO at once are counted once", () -> {
            Edge.refused(SOME, NO, "step", Scene.NET, 3, 3, 0);
            Edge.refused(SOME, NO, "step", Scene.NET, UP, 2, 10);
        });
    }

    private static void back() {
        Check.test("17 back: BEYOND, NET", () -> {
            Edge.taken(SOME, 2, "back", 0);
            Edge.taken(SOME, 15, "back", 2);
            Edge.outside(SOME, BEYOND, 0, 0, 2, "back", 0);
            Edge.outside(NO_ROOM, BEYOND, 0, 0, 3, "back", 0);
        });
        Check.test("17 back: the last STEP of all, then MISSING", () -> {
            Edge.taken(Scene.steps(2, 1, 5), 0, "back", 0);
            Edge.refused(Scene.steps(2, 1, 5).then("back", 0), MISSING, "back", 0);
            Edge.refused(SOME, MISSING, "back", Scene.BARE);
        });
        Check.test("17 back: of 16", () -> {
            Edge.taken(Scene.steps(2, 16, 2), 15, "back", 0);
            Edge.taken(Scene.steps(2, 16, 2).times(15, "back", 0), 0, "back", 0);
            Edge.refused(Scene.steps(2, 16, 2).times(16, "back", 0), MISSING, "back", 0);
        });
        Check.test("17 back: BEYOND is ahead of MISSING", () -> {
            Edge.refused(NEW, BEYOND, "back", 0);
            Edge.refused(NEW.then("net", 2).then("unnet"), BEYOND, "back", 0);
        });
    }

    private static void made() {
        Check.test("18 made: BEYOND", () -> {
            Edge.taken(SOME, 8, "made", 0);
            Edge.taken(SOME, 8, "made", 1);
            Edge.taken(SOME.then("net", 5), 8, "made", 3);
            Edge.outside(SOME, BEYOND, 0, 0, 2, "made", 0);
            Edge.outside(NO_ROOM.then("drop"), BEYOND, 0, 0, 3, "made", 0);
            Edge.refused(NEW, BEYOND, "made", 0);
        });
        Check.test("18 made: FULL, no room, and room again", () -> {
            Edge.refused(NO_ROOM, FULL, "made", Scene.NET);
            Edge.taken(NO_ROOM.then("drop"), 11, "made", Scene.NET);
        });
        Check.test("18 made: FULL, 1000 comes and 1001 doesn't", () -> {
            Run thousand = NEW.then("net", 2).then("step", 0, ON, 1, 8).times(3, "step", 0, ON, 1, 5);
            Edge.taken(thousand, 0, "made", 0);
            Edge.taken(thousand.then("made", 0), 1000, "at", 0, 1, 1);
            // One way more: it goes DOWN ahead of the ON STEPS, and comes UP behind them.
            Run more = NEW.then("net", 2).then("step", 0, DOWN, 0, 1).then("step", 0, ON, 1, 8)
                .times(3, "step", 0, ON, 1, 5).then("step", 0, UP, 0, 1);
            Edge.taken(more, 1001, "weight", 0, 2, 2);
            Edge.refused(more, FULL, "made", 0);
        });
        Check.test("18 made: FULL of the first place, of the last, beside the line", () -> {
            Edge.refused(Scene.steps(5, 4, 9), FULL, "made", 0);
            Edge.refused(NEW.then("net", 5).times(4, "step", 0, ON, 4, 9), FULL, "made", 0);
            // 81 ways' weight at LINE 3 goes over to LINE 4 once, and then once more.
            Run beside = NEW.then("net", 5).times(2, "step", 0, ON, 3, 9).then("step", 0, UP, 3, 9);
            Edge.taken(beside, 0, "made", 0);
            Edge.refused(beside.then("step", 0, UP, 3, 9), FULL, "made", 0);
        });
        Check.test("18 made: FULL of numbers that wrap round in an int", () -> {
            Edge.taken(Scene.steps(1, 16, 4), 1L << 32, "weight", 0, 1, 1);
            Edge.refused(Scene.steps(1, 16, 4), FULL, "made", 0);
            Edge.refused(Scene.steps(1, 16, 9), FULL, "made", 0);
            Edge.refused(Scene.steps(1, 16, 8), FULL, "made", 0);
        });
        Check.test("18 made: BEYOND is ahead of FULL", () -> {
            Edge.refused(NO_ROOM, BEYOND, "made", 4);
            Edge.refused(NO_ROOM, BEYOND, "made", -1);
            Edge.refused(Scene.tables(12), BEYOND, "made", 0);
        });
        Check.test("18 made: FULL twice over, and counted once", () -> {
            Run great = Scene.steps(1, 16, 9);
            Edge.refused(great.times(12, "table", 1, 1), FULL, "made", 0);
        });
    }

    /** What families(), weight() and family() refuse alike; the calls have NET, from, to ahead of the rest. */
    private static void likeFamilies(String promise, String name, int... numbers) {
        Check.test(promise + ": BEYOND, NET", () -> nets(name, numbers));
        Check.test(promise + ": BEYOND, from: bits beyond, none", () -> {
            Edge.outside(SOME, BEYOND, 1, 1, 7, name, numbersOf(numbers, Scene.NET, 0, 1));
            Edge.outside(SOME, BEYOND, 1, 1, 31, name, numbersOf(numbers, Scene.LONG, 0, 1));
            Edge.outside(SOME, BEYOND, 1, 1, 1, name, numbersOf(numbers, Scene.BARE, 0, 1));
            Edge.refused(SOME, BEYOND, name, numbersOf(numbers, Scene.NET, 8, 1));
            Edge.refused(SOME, BEYOND, name, numbersOf(numbers, Scene.NET, 9, 3));
        });
        Check.test(promise + ": BEYOND, to: bits beyond, none", () -> {
            Edge.outside(SOME, BEYOND, 2, 1, 7, name, numbersOf(numbers, Scene.NET, 1, 0));
            Edge.outside(SOME, BEYOND, 2, 1, 31, name, numbersOf(numbers, Scene.LONG, 1, 0));
            Edge.outside(SOME, BEYOND, 2, 1, 1, name, numbersOf(numbers, Scene.BARE, 1, 0));
            Edge.refused(SOME, BEYOND, name, numbersOf(numbers, Scene.NET, 1, 8));
            Edge.refused(SOME, BEYOND, name, numbersOf(numbers, Scene.NET, 3, 9));
        });
        Check.test(promise + ": the first bits and the last are taken", () -> {
            Edge.taken(SOME, name, numbersOf(numbers, Scene.NET, 1, 1));
            Edge.taken(SOME, name, numbersOf(numbers, Scene.NET, 4, 4));
            Edge.taken(SOME, name, numbersOf(numbers, Scene.NET, 7, 7));
            Edge.taken(SOME, name, numbersOf(numbers, Scene.LONG, 16, 16));
            Edge.taken(SOME, name, numbersOf(numbers, Scene.LONG, 31, 31));
            Edge.taken(SOME, name, numbersOf(numbers, Scene.BARE, 1, 1));
        });
        Check.test(promise + ": bits do not wrap round", () -> {
            Edge.refused(SOME, BEYOND, name, numbersOf(numbers, Scene.LONG, 33, 1));
            Edge.refused(SOME, BEYOND, name, numbersOf(numbers, Scene.LONG, 1, 33));
            Edge.refused(SOME, BEYOND, name, numbersOf(numbers, Scene.LONG, (1 << 31) + 1, 1));
            Edge.refused(SOME, BEYOND, name, numbersOf(numbers, Scene.LONG, 1, (1 << 31) + 1));
        });
        Check.test(promise + ": NO, unlike many", () -> {
            Edge.refused(SOME, NO, name, numbersOf(numbers, Scene.NET, 3, 1));
            Edge.refused(SOME, NO, name, numbersOf(numbers, Scene.NET, 1, 3));
            Edge.refused(SOME, NO, name, numbersOf(numbers, Scene.NET, 7, 6));
            Edge.refused(SOME, NO, name, numbersOf(numbers, Scene.LONG, 31, 16));
        });
        Check.test(promise + ": BEYOND is ahead of NO", () -> {
            Edge.refused(SOME, BEYOND, name, numbersOf(numbers, Scene.NETS, 3, 1));
            Edge.refused(SOME, BEYOND, name, numbersOf(numbers, Scene.NET, 0, 1));
            Edge.refused(SOME, BEYOND, name, numbersOf(numbers, Scene.NET, 1, 0));
            Edge.refused(SOME, BEYOND, name, numbersOf(numbers, Scene.NET, 15, 1));
            Edge.refused(SOME, BEYOND, name, numbersOf(numbers, Scene.NET, 1, 12));
        });
    }

    private static int[] numbersOf(int[] numbers, int net, int from, int to) {
        return Edge.with(Edge.with(Edge.with(numbers, 0, net), 1, from), 2, to);
    }

    private static void families() {
        Check.test("19 families: none lead so: 0, and no refusal", () -> {
            Edge.taken(NEW.then("net", 3), 0, "families", 0, 1, 2);
            Edge.taken(NEW.then("net", 2).then("step", 0, UP, 0, 1), 0, "families", 0, 2, 1);
        });
        Check.test("19 families: many of them, in 16 STEPS", () -> {
            Run most = NEW.then("net", 2);
            for (int k = 0; k < 8; k++) {
                most = most.then("step", 0, UP, 0, 1).then("step", 0, DOWN, 0, 1);
            }
            Check.same("families(0, 1, 1)", 1597, most.play().call("families", 0, 1, 1));
            Check.same("families(0, 2, 1)", 1597 - 610, most.play().call("families", 0, 2, 1));
            Check.same("families(0, 1, 2)", 987, most.play().call("families", 0, 1, 2));
            Check.same("the last of them", 1, most.play().call("family", 0, 1, 1, STEP * 16 + 1596));
            Check.same("the first beyond", BEYOND, most.play().call("family", 0, 1, 1, STEP * 16 + 1597));
        });
    }

    private static void weight() {
        Check.test("20 weight: none lead so: 0, and no refusal", () -> Edge.taken(NEW.then("net", 3), 0, "weight", 0, 1, 2));
        Check.test("20 weight: more than 9 sixteen times multiplied", () -> {
            Run most = NEW.then("net", 2);
            for (int k = 0; k < 8; k++) {
                most = most.then("step", 0, UP, 0, 9).then("step", 0, DOWN, 0, 9);
            }
            Edge.taken(most, 2_222_891_938_868_077L, "weight", 0, 1, 1);
            Edge.taken(most, 244_011_802_169_763L, "weight", 0, 1, 2);
            Edge.taken(most, 1, "weight", 0, 3, 3);
            Edge.refused(most, FULL, "made", 0);
        });
        Check.test("20 weight: the least, and great ones", () -> {
            Edge.taken(Scene.steps(1, 16, 1), 1, "weight", 0, 1, 1);
            Edge.taken(Scene.steps(1, 16, 9), 1853020188851841L, "weight", 0, 1, 1);
            // Each UP STEP at one place adds its weight: 16 of them.
            Run wide = NEW.then("net", 2).times(16, "step", 0, UP, 0, 9);
            Edge.taken(wide, 16 * 9, "weight", 0, 1, 2);
        });
    }

    private static void family() {
        Run two = NEW.then("net", 2).times(2, "step", 0, UP, 0, 9);
        Check.test("21 family: s from 0 to as many as there are, BEYOND after", () -> {
            Edge.taken(two, 1, "family", 0, 1, 2, 0);
            Edge.taken(two, 2, "family", 0, 1, 2, STEP * 2);
            Edge.refused(two, BEYOND, "family", 0, 1, 2, STEP * 3);
            Edge.refused(two, BEYOND, "family", 0, 1, 2, STEP * 31);
        });
        Check.test("21 family: s of a NET with no STEPS", () -> {
            Edge.taken(NEW.then("net", 5), 21, "family", 0, 21, 21, 0);
            Edge.refused(NEW.then("net", 5), BEYOND, "family", 0, 21, 21, STEP);
        });
        Check.test("21 family: s of a NET with 16", () -> {
            Edge.taken(SOME, "family", Scene.LONG, 1, 1, STEP * 16);
            Edge.refused(SOME, BEYOND, "family", Scene.LONG, 1, 1, STEP * 17);
            Edge.taken(SOME.then("back", Scene.LONG), "family", Scene.LONG, 1, 1, STEP * 15);
            Edge.refused(SOME.then("back", Scene.LONG), BEYOND, "family", Scene.LONG, 1, 1, STEP * 16);
        });
        Check.test("21 family: k from 0 to the last, BEYOND after", () -> {
            for (int s = 0; s <= 2; s++) {
                Edge.taken(two, "family", 0, 1, 2, STEP * s);
                Edge.taken(two, "family", 0, 1, 2, STEP * s + 1);
                Edge.refused(two, BEYOND, "family", 0, 1, 2, STEP * s + 2);
                Edge.refused(two, BEYOND, "family", 0, 1, 2, STEP * s + STEP - 1);
            }
        });
        Check.test("21 family: no FAMILY at all: k = 0 is BEYOND", () -> {
            Edge.refused(two, BEYOND, "family", 0, 2, 1, 0);
            Edge.refused(NEW.then("net", 3), BEYOND, "family", 0, 1, 2, 0);
        });
        Check.test("21 family: told is 25 bits, and doesn't wrap round", () -> {
            Edge.refused(two, BEYOND, "family", 0, 1, 2, STEP * 32);
            Edge.refused(two, BEYOND, "family", 0, 1, 2, STEP * 32 + 1);
            Edge.refused(two, BEYOND, "family", 0, 1, 2, -1);
            Edge.refused(two, BEYOND, "family", 0, 1, 2, -STEP);
            Edge.refused(two, BEYOND, "family", 0, 1, 2, Bench.MIN);
            Edge.refused(two, BEYOND, "family", 0, 1, 2, Bench.MIN + 1);
            Edge.refused(two, BEYOND, "family", 0, 1, 2, Bench.MAX);
        });
        Check.test("21 family: BEYOND of s and k at once is counted once", () -> {
            Edge.refused(two, BEYOND, "family", 0, 1, 2, STEP * 3 + 2);
        });
        Check.test("21 family: NO is ahead of BEYOND of s and k", () -> {
            Edge.refused(two, NO, "family", 0, 3, 2, STEP * 3);
            Edge.refused(two, NO, "family", 0, 1, 3, 2);
            Edge.refused(two, NO, "family", 0, 1, 3, -1);
        });
        Check.test("21 family: BEYOND of bits with BEYOND of s and k is counted once", () -> {
            Edge.refused(two, BEYOND, "family", 0, 4, 1, STEP * 3);
            Edge.refused(two, BEYOND, "family", 1, 1, 1, -1);
        });
    }

    private static void familyOrder() {
        Run line = NEW.then("net", 3).then("step", 0, UP, 0, 9).then("step", 0, UP, 1, 9).then("step", 0, UP, 0, 9)
            .then("step", 0, DOWN, 1, 9);
        Check.test("21 family: at each s, of each k, as the document orders them", () -> {
            for (int from = 1; from < 8; from++) {
                for (int to = 1; to < 8; to++) {
                    boolean asMany = Integer.bitCount(from) == Integer.bitCount(to);
                    for (int k = 0; k < 4 && asMany; k++) {
                        for (int s = 0; s <= 5; s++) {
                            long due = line.playOn(new Model()).call("family", 0, from, to, STEP * s + k);
                            String call = Played.told("family", 0, from, to, STEP * s + k);
                            Check.same(call, due, line.play().call("family", 0, from, to, STEP * s + k));
                        }
                    }
                }
            }
        });
    }

    private static void unnet() {
        Check.test("22 unnet: the last of all, then MISSING", () -> {
            Edge.taken(NEW.then("net", 2), 0, "unnet");
            Edge.refused(NEW.then("net", 2).then("unnet"), MISSING, "unnet");
            Edge.refused(NEW, MISSING, "unnet");
        });
        Check.test("22 unnet: of four", () -> {
            Edge.taken(NO_ROOM, 3, "unnet");
            Edge.taken(NO_ROOM.times(3, "unnet"), 0, "unnet");
            Edge.refused(NO_ROOM.times(4, "unnet"), MISSING, "unnet");
        });
        Check.test("22 unnet: the latest goes, and is BEYOND then", () -> {
            Edge.refused(SOME.then("unnet"), BEYOND, "back", Scene.LONG);
            Edge.refused(SOME.then("unnet"), BEYOND, "families", Scene.LONG, 1, 1);
            Edge.taken(SOME.then("unnet"), 2, "back", Scene.NET);
        });
        Check.test("22 unnet: TABLES stay", () -> Edge.taken(SOME.times(3, "unnet"), 0, "look", Scene.OF_NET, 7));
    }
}

/** Promises 15 to 22. */
final class NetTests {
    private static final int UP = 0;
    private static final int DOWN = 1;
    private static final int ON = 2;
    /** What told is for STEP s and FAMILY 0. */
    private static final int STEP = 1 << 20;

    private NetTests() {
    }

    static void all() {
        Check.test("15: net", NetTests::net);
        Check.test("16: step", NetTests::step);
        Check.test("16: step, wrong", NetTests::stepWrong);
        Check.test("17: back", NetTests::back);
        Check.test("18: made", NetTests::made);
        Check.test("18: made, wrong", NetTests::madeWrong);
        Check.test("19: families", NetTests::families);
        Check.test("19, 20: families and weight, the most", NetTests::theMost);
        Check.test("19, 20: families and weight, wrong", NetTests::familiesWrong);
        Check.test("20: weight", NetTests::weight);
        Check.test("20: weight is the WORTH of a PART", NetTests::weightIsWorth);
        Check.test("21: family", NetTests::family);
        Check.test("21: family, two that never meet", NetTests::familyOfTwo);
        Check.test("21: family, wrong", NetTests::familyWrong);
        Check.test("22: unnet", NetTests::unnet);
    }

    private static void net() {
        WellTables x = new WellTables();
        int[] wrong = {0, 6, -1, Bench.MIN, Bench.MAX};
        for (int n : wrong) {
            Check.same("net(" + n + ")", Bench.NO, x.net(n));
        }
        Check.same("net", 0, x.net(1));
        Check.same("net", 1, x.net(5));
        Check.same("net", 2, x.net(3));
        Check.same("net", 3, x.net(2));
        Check.same("the fifth", Bench.FULL, x.net(1));
        Check.same("NO is ahead of FULL", Bench.NO, x.net(6));
        int[] lines = {1, 5, 3, 2};
        for (int k = 0; k < 4; k++) {
            Check.same("made", k, x.made(k));
            Check.same("LINES", lines[k], x.look(k, 1));
            Check.same("no STEPS", Bench.MISSING, x.back(k));
        }
        Bench.refusals(x, 4, 0, 0, 0, 0, 6, 1);
    }

    private static void step() {
        WellTables x = new WellTables();
        x.net(2);
        x.net(5);
        Check.same("UP", 1, x.step(1, UP, 3, 9));
        Check.same("DOWN", 2, x.step(1, DOWN, 3, 1));
        Check.same("ON", 3, x.step(1, ON, 4, 9));
        Check.same("of another", 1, x.step(0, UP, 0, 1));
        for (int k = 4; k <= 16; k++) {
            Check.same("step", k, x.step(1, ON, 0, 1));
        }
        Check.same("the seventeenth", Bench.FULL, x.step(1, ON, 0, 1));
        Check.same("NO is ahead of FULL", Bench.NO, x.step(1, ON, 0, 0));
        Check.same("BEYOND is first", Bench.BEYOND, x.step(2, ON, 0, 0));
        Check.same("sixteen", 15, x.back(1));
        Check.same("the other has room", 2, x.step(0, ON, 1, 1));
        Bench.refusals(x, 0, 1, 0, 0, 0, 1, 1);
    }

    private static void stepWrong() {
        WellTables x = new WellTables();
        x.net(3);
        x.net(1);
        int[][] wrong = {{-1, 0, 1}, {3, 0, 1}, {Bench.MIN, 0, 1}, {Bench.MAX, 0, 1}, {UP, -1, 1}, {UP, 2, 1},
            {DOWN, 2, 1}, {DOWN, -1, 1}, {ON, 3, 1}, {ON, -1, 1}, {UP, Bench.MAX, 1}, {ON, Bench.MIN, 1},
            {UP, 0, 0}, {UP, 0, 10}, {DOWN, 0, -1}, {ON, 0, 0}, {ON, 0, Bench.MAX}, {ON, 0, Bench.MIN}};
        for (int[] w : wrong) {
            Check.same("step NO", Bench.NO, x.step(0, w[0], w[1], w[2]));
        }
        Check.same("UP of one LINE", Bench.NO, x.step(1, UP, 0, 1));
        Check.same("DOWN of one LINE", Bench.NO, x.step(1, DOWN, 0, 1));
        Check.same("ON of one LINE", 1, x.step(1, ON, 0, 1));
        Check.same("none came", Bench.MISSING, x.back(0));
        Check.same("BEYOND", Bench.BEYOND, x.step(-1, UP, 0, 1));
        Check.same("BEYOND", Bench.BEYOND, x.step(2, UP, 0, 1));
        Check.same("BEYOND", Bench.BEYOND, x.step(Bench.MAX, UP, 0, 1));
        Bench.refusals(x, 1, 3, 0, 0, 0, wrong.length + 2, 0);
    }

    private static void back() {
        WellTables x = new WellTables();
        x.net(2);
        x.step(0, ON, 0, 2);
        x.step(0, ON, 0, 3);
        Check.same("weight", 6, x.weight(0, 1, 1));
        Check.same("back", 1, x.back(0));
        Check.same("weight", 2, x.weight(0, 1, 1));
        Check.same("another comes", 2, x.step(0, ON, 0, 5));
        Check.same("weight", 10, x.weight(0, 1, 1));
        Check.same("back", 1, x.back(0));
        Check.same("back", 0, x.back(0));
        Check.same("back", Bench.MISSING, x.back(0));
        Check.same("BEYOND", Bench.BEYOND, x.back(1));
        Check.same("BEYOND", Bench.BEYOND, x.back(-1));
        Bench.refusals(x, 1, 2, 0, 0, 0, 0, 0);
    }

    private static void made() {
        WellTables x = new WellTables();
        x.net(3);
        Check.same("no STEPS", 0, x.made(0));
        Bench.holdsNumbers(x, 0, Bench.row(1, 0, 0), Bench.row(0, 1, 0), Bench.row(0, 0, 1));
        x.step(0, DOWN, 1, 2);
        x.step(0, UP, 0, 3);
        x.step(0, ON, 1, 5);
        x.step(0, UP, 1, 7);
        Check.same("made", 1, x.made(0));
        // From 2: stays at 2 (1); goes to 1 (2), is weighed (5), stays, or goes to 2 (7).
        Bench.holdsNumbers(x, 1, Bench.row(1, 15, 105), Bench.row(0, 5, 35), Bench.row(0, 10, 71));
        Check.same("NET", 1, x.look(1, 0));
        Check.same("its number", 0, x.look(1, 7));
        x.step(0, ON, 2, 9);
        Check.same("made ones stay", 71, x.at(1, 2, 2));
        // A way that has gone over goes over again: two UP at one place add up, and UP, DOWN lead back.
        x.net(2);
        x.step(1, UP, 0, 4);
        x.step(1, DOWN, 0, 5);
        x.step(1, UP, 0, 6);
        Check.same("made", 2, x.made(1));
        Bench.holdsNumbers(x, 2, Bench.row(21, 130), Bench.row(5, 31));
    }

    private static void madeWrong() {
        WellTables x = new WellTables();
        x.net(2);
        x.step(0, ON, 1, 8);
        x.step(0, ON, 1, 5);
        x.step(0, ON, 1, 5);
        x.step(0, ON, 1, 5);
        Check.same("just 1000", 0, x.made(0));
        Check.same("at", 1000, x.at(0, 1, 1));
        x.step(0, DOWN, 0, 1);
        x.step(0, UP, 0, 1);
        Check.same("too big", Bench.FULL, x.made(0));
        Check.same("none came", Bench.BEYOND, x.look(1, 0));
        // 4 to the 16th is 2 to the 32nd, which is nought in an int.
        x.net(1);
        for (int k = 0; k < 16; k++) {
            x.step(1, ON, 0, 4);
        }
        Check.same("far too big", Bench.FULL, x.made(1));
        Check.same("BEYOND", Bench.BEYOND, x.made(2));
        Check.same("BEYOND", Bench.BEYOND, x.made(-1));
        x.net(1);
        Bench.fillTables(x);
        Check.same("no room", Bench.FULL, x.made(2));
        Check.same("BEYOND is first", Bench.BEYOND, x.made(3));
        Bench.refusals(x, 0, 4, 0, 0, 0, 0, 4);
    }

    private static void families() {
        WellTables x = new WellTables();
        x.net(3);
        Check.same("stays", 1, x.families(0, 5, 5));
        Check.same("can't", 0, x.families(0, 5, 6));
        x.step(0, UP, 0, 2);
        x.step(0, UP, 1, 3);
        x.step(0, UP, 0, 4);
        Check.same("0 to 1", 2, x.families(0, 1, 2));
        Check.same("0 to 2", 1, x.families(0, 1, 4));
        Check.same("0 to 0", 1, x.families(0, 1, 1));
        Check.same("0 1 to 1 2", 1, x.families(0, 3, 6));
        Check.same("0 1 to 0 1", 1, x.families(0, 3, 3));
        Check.same("0 1 to 0 2", 1, x.families(0, 3, 5));
        Check.same("0 2 to 1 2", 2, x.families(0, 5, 6));
        Check.same("all", 1, x.families(0, 7, 7));
        Check.same("none leads down", 0, x.families(0, 4, 1));
    }

    private static void theMost() {
        WellTables x = new WellTables();
        x.net(2);
        for (int k = 0; k < 8; k++) {
            x.step(0, UP, 0, 9);
            x.step(0, DOWN, 0, 9);
        }
        // Ways of one LINE: those at the lower, upper LINE after each pair of STEPS.
        long low = 1;
        long high = 0;
        long lowWeight = 1;
        long highWeight = 0;
        for (int k = 0; k < 8; k++) {
            high += low;
            low += high;
            highWeight += 9 * lowWeight;
            lowWeight += 9 * highWeight;
        }
        Check.same("families 0 to 0", low, x.families(0, 1, 1));
        Check.same("families 0 to 1", high, x.families(0, 1, 2));
        Check.same("weight 0 to 0", lowWeight, x.weight(0, 1, 1));
        Check.same("weight 0 to 1", highWeight, x.weight(0, 1, 2));
        Check.same("two stay", 1, x.families(0, 3, 3));
        x.net(1);
        for (int k = 0; k < 16; k++) {
            x.step(1, ON, 0, 9);
        }
        Check.same("9 to the 16th", 1853020188851841L, x.weight(1, 1, 1));
        Check.same("one", 1, x.families(1, 1, 1));
    }

    private static void familiesWrong() {
        WellTables x = new WellTables();
        x.net(3);
        int[][] beyond = {{1, 1, 1}, {-1, 1, 1}, {0, 0, 1}, {0, 1, 0}, {0, 0, 0}, {0, 8, 1}, {0, 1, 8}, {0, -1, 1},
            {0, 1, -1}, {0, Bench.MIN, 1}, {0, 1, Bench.MAX}, {0, 8, 3}};
        for (int[] b : beyond) {
            Check.same("families", Bench.BEYOND, x.families(b[0], b[1], b[2]));
            Check.same("weight", 0, x.weight(b[0], b[1], b[2]));
        }
        Bench.refusals(x, 0, 24, 0, 0, 0, 0, 0);
        Check.same("unlike many", Bench.NO, x.families(0, 3, 1));
        Check.same("unlike many", Bench.NO, x.families(0, 1, 7));
        Check.same("unlike many", 0, x.weight(0, 3, 1));
        Bench.refusals(x, 0, 24, 0, 0, 0, 3, 0);
        Check.same("none lead so: no refusal", 0, x.weight(0, 1, 2));
        Bench.refusals(x, 0, 24, 0, 0, 0, 3, 0);
    }

    private static void weight() {
        WellTables x = new WellTables();
        x.net(3);
        Check.same("no STEPS", 1, x.weight(0, 7, 7));
        x.step(0, UP, 0, 2);
        x.step(0, UP, 1, 3);
        x.step(0, UP, 0, 4);
        x.step(0, ON, 1, 5);
        Check.same("0 to 1", (2 + 4) * 5, x.weight(0, 1, 2));
        Check.same("0 to 2", 6, x.weight(0, 1, 4));
        Check.same("0 1 to 1 2", 3 * 4 * 5, x.weight(0, 3, 6));
        Check.same("0 1 to 0 2", 3, x.weight(0, 3, 5));
        Check.same("0 2 to 1 2", (2 + 4) * 5, x.weight(0, 5, 6));
        Check.same("all", 5, x.weight(0, 7, 7));
        x.step(0, DOWN, 1, 6);
        Check.same("2 to 1", 6, x.weight(0, 4, 2));
        Check.same("0 to 1", 30 + 6 * 6, x.weight(0, 1, 2));
    }

    private static void weightIsWorth() {
        WellTables x = new WellTables();
        x.net(4);
        int[][] steps = {{DOWN, 2, 1}, {DOWN, 1, 2}, {UP, 0, 1}, {ON, 3, 2}, {DOWN, 0, 1}, {UP, 1, 3}, {UP, 2, 1},
            {ON, 0, 3}, {DOWN, 2, 2}, {UP, 0, 1}};
        for (int[] s : steps) {
            x.step(0, s[0], s[1], s[2]);
        }
        int t = x.made(0);
        Check.same("made", 0, t);
        for (int from = 1; from < 16; from++) {
            for (int to = 1; to < 16; to++) {
                if (Integer.bitCount(from) == Integer.bitCount(to)) {
                    Check.same("weight(0, " + from + ", " + to + ")", x.worth(t, from, to), x.weight(0, from, to));
                }
            }
        }
        Check.same("so it is WELL", 1, x.look(t, 3));
    }

    private static void family() {
        WellTables x = new WellTables();
        x.net(3);
        x.step(0, UP, 0, 9);
        x.step(0, ON, 0, 8);
        x.step(0, UP, 0, 7);
        x.step(0, DOWN, 0, 6);
        // From 0 to 0: stay, stay (then DOWN does nothing); stay, go, down; go, -, down.
        Check.same("families", 3, x.families(0, 1, 1));
        int[][] lines = {{1, 1, 1, 1, 1}, {1, 1, 1, 2, 1}, {1, 2, 2, 2, 1}};
        for (int k = 0; k < 3; k++) {
            for (int s = 0; s <= 4; s++) {
                Check.same("FAMILY " + k + " ahead of " + s, lines[k][s], x.family(0, 1, 1, STEP * s + k));
            }
        }
        // From 0 to 1: stay, go, stay; go, -, stay.
        int[][] others = {{1, 1, 1, 2, 2}, {1, 2, 2, 2, 2}};
        for (int k = 0; k < 2; k++) {
            for (int s = 0; s <= 4; s++) {
                Check.same("FAMILY " + k + " ahead of " + s, others[k][s], x.family(0, 1, 2, STEP * s + k));
            }
        }
        Bench.refusals(x, 0, 0, 0, 0, 0, 0, 0);
        Check.same("their weights don't make more", Bench.BEYOND, x.family(0, 1, 1, 3));
    }

    private static void familyOfTwo() {
        WellTables x = new WellTables();
        x.net(3);
        x.step(0, UP, 0, 1);
        x.step(0, UP, 1, 1);
        x.step(0, UP, 0, 1);
        // From 0 2 to 1 2: the first STEP's that stays goes over at the last.
        Check.same("families", 2, x.families(0, 5, 6));
        int[][] lines = {{5, 5, 5, 6}, {5, 6, 6, 6}};
        for (int k = 0; k < 2; k++) {
            for (int s = 0; s <= 3; s++) {
                Check.same("FAMILY " + k + " ahead of " + s, lines[k][s], x.family(0, 5, 6, STEP * s + k));
            }
        }
        int[] only = {3, 3, 5, 6};
        for (int s = 0; s <= 3; s++) {
            Check.same("the only one ahead of " + s, only[s], x.family(0, 3, 6, STEP * s));
        }
    }

    private static void familyWrong() {
        WellTables x = new WellTables();
        x.net(2);
        x.step(0, UP, 0, 1);
        x.step(0, UP, 0, 1);
        int[] told = {2, STEP * 2 + 2, STEP * 3, STEP * 31, STEP * 32, -1, Bench.MIN, Bench.MAX, STEP - 1};
        for (int t : told) {
            Check.same("told " + t, Bench.BEYOND, x.family(0, 1, 2, t));
        }
        Check.same("no FAMILY", Bench.BEYOND, x.family(0, 2, 1, 0));
        int[][] beyond = {{1, 1, 1}, {-1, 1, 1}, {0, 0, 1}, {0, 1, 0}, {0, 4, 1}, {0, 1, 4}, {0, -1, 1}, {0, 4, 3}};
        for (int[] b : beyond) {
            Check.same("family", Bench.BEYOND, x.family(b[0], b[1], b[2], 0));
        }
        Check.same("NO", Bench.NO, x.family(0, 3, 1, 0));
        Check.same("NO is ahead of s, k", Bench.NO, x.family(0, 1, 3, -1));
        Bench.refusals(x, 0, told.length + 1 + beyond.length, 0, 0, 0, 2, 0);
        Check.same("the last", 2, x.family(0, 1, 2, STEP * 2 + 1));
    }

    private static void unnet() {
        WellTables x = new WellTables();
        x.net(2);
        x.net(3);
        x.step(1, UP, 1, 7);
        Check.same("unnet", 1, x.unnet());
        Check.same("gone", Bench.BEYOND, x.back(1));
        Check.same("net", 1, x.net(4));
        Check.same("no STEPS are left of the other", Bench.MISSING, x.back(1));
        Check.same("unnet", 1, x.unnet());
        Check.same("unnet", 0, x.unnet());
        Check.same("unnet", Bench.MISSING, x.unnet());
        Bench.refusals(x, 2, 1, 0, 0, 0, 0, 0);
    }
}

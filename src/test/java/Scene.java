/** Runs of calls that lead to where the edges are looked at. */
final class Scene {
    static final Run NEW = Run.NEW;

    /** TABLES of SOME. */
    static final int PLAIN = 0;
    static final int STRICT = 1;
    static final int OF_NET = 2;
    static final int BAND = 3;
    static final int MADE = 4;
    static final int GREATEST = 5;
    static final int WIDE = 6;
    static final int LEAST = 7;
    static final int TABLES = 8;

    /** NETS of SOME. */
    static final int NET = 0;
    static final int BARE = 1;
    static final int LONG = 2;
    static final int NETS = 3;

    /** A TABLE of each KIND, a NET with no STEPS and one with 16, THE ROW, a MAKING, and some refusals. */
    static final Run SOME = someRefusals(some());
    static final Run TORN = SOME.then("tear");
    /** There are 12 TABLES, and 4 NETS, three of them with LINES to spare. */
    static final Run NO_ROOM = SOME.times(12 - TABLES, "table", 1, 1).then("net", 2);
    static final Run NO_ROOM_TORN = NO_ROOM.then("tear");

    private Scene() {
    }

    private static Run some() {
        return twoNets(NEW)
            .table(PLAIN, Bench.row(1, 2, 3), Bench.row(4, 5, 6))
            .table(STRICT, Bench.row(1, 1, 1), Bench.row(1, 2, 3), Bench.row(1, 3, 6))
            .then("made", NET)
            .row(5, -3, 7).then("tell", 15, -1000)
            .then("band", 2, 2)
            .then("turn", PLAIN, 0)
            .table(GREATEST, Bench.row(1000))
            .table(WIDE, Bench.row(0, 0, 0, 0, 9), Bench.row(0, 0, 0, 0, 0), Bench.row(0, 0, 0, 0, 0),
                Bench.row(0, 0, 0, 0, 0), Bench.row(8, 0, 0, 0, 7))
            .table(LEAST, Bench.row(-1000))
            .then(longNet())
            .then("make", STRICT);
    }

    private static Run twoNets(Run before) {
        return before.then("net", 3)
            .then("step", NET, 0, 0, 2).then("step", NET, 1, 1, 3).then("step", NET, 2, 2, 5)
            .then("net", 1);
    }

    private static Run longNet() {
        Run steps = NEW.then("net", 5);
        for (int i = 0; i < 4; i++) {
            steps = steps.then("step", LONG, 0, i, 2).then("step", LONG, 1, i, 3);
        }
        return steps.times(8, "step", LONG, 2, 4, 2);
    }

    private static Run someRefusals(Run before) {
        return before.then("at", -1, 0, 0).then("copy", 0, 0, -1).then("copy", 16, 0, 1)
            .then("set", MADE, 0, 0, 1).then("table", 0, 0).times(2, "step", LONG, 2, 0, 1)
            .then("back", BARE);
    }

    /** A NET's number 0 with so many STEPS, all of them ON at 0 with this weight. */
    static Run steps(int lines, int many, int weight) {
        return NEW.then("net", lines).times(many, "step", 0, 2, 0, weight);
    }

    static Run tables(int many) {
        return NEW.times(many, "table", 1, 1);
    }
}

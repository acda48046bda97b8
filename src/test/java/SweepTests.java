/**
 * Each call with all mixes of numbers at its edges, about them and far away, in several states:
 * answers and status() are the Model's, and the refused ones together leave all else as it was.
 */
final class SweepTests {
    private static final int MIN = Bench.MIN;
    private static final int MAX = Bench.MAX;
    private static final int REFUSED_AT_ONCE = 40;
    private static final int REFUSALS = 7;

    private static final int[] TABLE = {MIN, -1, 0, 1, 2, 3, 4, 5, 7, 8, 11, 12, MAX};
    private static final int[] NET = {MIN, -1, 0, 1, 2, 3, 4, MAX};
    private static final int[] SIDE = {MIN, -1, 0, 1, 2, 5, 6, MAX};
    private static final int[] BITS = {MIN, MIN + 1, -1, 0, 1, 2, 3, 4, 7, 8, 9, 15, 31, 32, 33, MAX};
    private static final int[] PLACE = {MIN, -1, 0, 1, 2, 3, 4, 5, MAX};
    private static final int[] NUMBER = {MIN, -1001, -1000, -3, 0, 1000, 1001, MAX};
    private static final int[] WHAT = {MIN, -2, -1, 0, 1, 2, 3, 4, 5, 6, 7, 8, MAX};
    private static final int[] WEIGHT = {MIN, -1, 0, 1, 9, 10, MAX};
    private static final int[] ROW_PLACE = {MIN, MIN + 1, -1, 0, 1, 7, 8, 9, 15, 16, 17, MAX - 15, MAX};
    private static final int[] TOLD = {MIN, -1, 0, 1, 2, (1 << 20) - 1, 1 << 20, (3 << 20) + 1, 16 << 20, 17 << 20, 1 << 25, MAX};
    private static final int[] BY = {MIN, -9, -8, -7, -6, -5, -4, -3, -2, -1, 0, 1, 2, 8, MAX};
    private static final int[] TRUTH = {0, 1};

    private final String name;
    private final Run before;
    private final long[] statusBefore;
    private Run refused;
    private int refusedHere = 0;

    private SweepTests(String name, Run before) {
        this.name = name;
        this.before = before;
        this.statusBefore = Seen.statusAfter(before);
        this.refused = before;
    }

    static void all() {
        sweep("table", SIDE, SIDE);
        sweep("set", TABLE, PLACE, PLACE, NUMBER);
        sweep("at", TABLE, PLACE, PLACE);
        sweep("look", TABLE, WHAT);
        sweep("drop");
        sweep("worth", TABLE, BITS, BITS);
        sweep("low", TABLE, TRUTH);
        sweep("count", TABLE, PLACE);
        sweep("product", TABLE, TABLE);
        sweep("sum", TABLE, TABLE);
        sweep("part", TABLE, BITS, BITS);
        sweep("turn", TABLE, PLACE);
        sweep("same", TABLE, TABLE);
        sweep("net", SIDE);
        sweep("step", NET, PLACE, PLACE, WEIGHT);
        sweep("back", NET);
        sweep("made", NET);
        sweep("families", NET, BITS, BITS);
        sweep("weight", NET, BITS, BITS);
        sweep("family", NET, new int[] {-1, 0, 1, 3, 7, 31, 32}, new int[] {-1, 0, 1, 2, 3, 16, 31, 32}, TOLD);
        sweep("unnet");
        sweep("tell", ROW_PLACE, NUMBER);
        sweep("changes", TABLE);
        sweep("band", SIDE, SIDE);
        sweep("make", TABLE);
        sweep("making", ROW_PLACE, PLACE);
        sweep("lay", TABLE, PLACE);
        sweep("tear");
        sweep("row", ROW_PLACE);
        sweep("copy", ROW_PLACE, ROW_PLACE, ROW_PLACE);
        sweep("status", BY);
    }

    private static void sweep(String name, int[]... numbers) {
        Check.test("sweep: " + name, () -> {
            for (Run before : new Run[] {Scene.NEW, Scene.SOME, Scene.TORN, Scene.NO_ROOM, Scene.NO_ROOM_TORN}) {
                SweepTests here = new SweepTests(name, before);
                here.mixes(new int[numbers.length], 0, numbers);
                here.refusedLeaveAll();
            }
        });
    }

    private void mixes(int[] mix, int place, int[][] numbers) {
        if (place == mix.length) {
            oneCall(mix);
            return;
        }
        for (int number : numbers[place]) {
            mix[place] = number;
            mixes(mix, place + 1, numbers);
        }
    }

    private void oneCall(int[] mix) {
        Played x = before.play();
        Played model = before.playOn(new Model());
        String call = Played.told(name, mix);
        Check.same(call, model.call(name, mix), x.call(name, mix));
        boolean isRefused = false;
        for (int k = 0; k < REFUSALS; k++) {
            long due = model.call("status", -2 - k);
            Check.same("after " + call + ", status(" + (-2 - k) + ")", due, x.call("status", -2 - k));
            isRefused |= due != statusBefore[k];
        }
        if (isRefused) {
            refused = refused.then(name, mix);
            refusedHere++;
        }
        if (refusedHere == REFUSED_AT_ONCE) {
            refusedLeaveAll();
        }
    }

    private void refusedLeaveAll() {
        if (refusedHere > 0) {
            Edge.leavesAll(refusedHere + " calls of " + name, before, refused);
        }
        refused = before;
        refusedHere = 0;
    }
}

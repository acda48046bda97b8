import java.util.Random;

/** Runs of calls with fixed seeds, each call asked of the class and of the Model. */
final class ModelTests {
    private static final int CALLS = 512;
    private static final int[] ODD = {Integer.MIN_VALUE, Integer.MAX_VALUE, -1, -2, 6, 16, 17, 32, 1001, -1001, 1 << 20};

    private final WellTables x = new WellTables();
    private final Model model = new Model();
    private final Random random;
    private final int seed;
    /** How great the numbers are that this run sets: small ones make more WELL tables. */
    private final int low;
    private final int high;
    private int tables;
    private int nets;
    private boolean isRight = true;

    private ModelTests(int seed) {
        this.seed = seed;
        this.random = new Random(seed);
        int[][] ranges = {{0, 3}, {-3, 6}, {-1000, 1000}, {0, 40}, {990, 1000}, {-1, 1}};
        this.low = ranges[seed % ranges.length][0];
        this.high = ranges[seed % ranges.length][1];
    }

    static void all() {
        Check.test("model: mixed calls", () -> runs(0, 240, 0));
        Check.test("model: tables", () -> runs(1000, 60, 1));
        Check.test("model: nets", () -> runs(2000, 60, 2));
        Check.test("model: signs, bands, rows", () -> runs(3000, 60, 3));
        Check.test("model: making, numbers at their ends", ModelTests::greatMaking);
        Check.test("model: any numbers at all", () -> runs(4000, 40, 4));
    }

    private static void runs(int first, int many, int sort) {
        for (int seed = first; seed < first + many; seed++) {
            ModelTests run = new ModelTests(seed);
            for (int k = 0; k < CALLS && run.isRight; k++) {
                run.call(sort);
            }
        }
    }

    /** Three by three tables of numbers near the ends, where a long is nearly full. */
    private static void greatMaking() {
        Random random = new Random(5);
        // Numbers that fall off so from the diagonal mostly make a STRICT table.
        int[] bells = {960, 600, 150};
        int made = 0;
        for (int round = 0; round < 4000; round++) {
            WellTables x = new WellTables();
            Model model = new Model();
            x.table(3, 3);
            model.table(3, 3);
            boolean isBell = round % 2 == 0;
            for (int place = 0; place < 9; place++) {
                int v = isBell ? bells[Math.abs(place / 3 - place % 3)] : 960;
                v += random.nextInt(81) - 40;
                v = !isBell && random.nextInt(9) == 0 ? -v : v;
                x.set(0, place / 3, place % 3, v);
                model.set(0, place / 3, place % 3, v);
            }
            int steps = model.make(0);
            Check.same("make", steps, x.make(0));
            made += steps > 0 ? 1 : 0;
            for (int i = 0; i < steps; i++) {
                for (int what = 0; what < 4; what++) {
                    Check.same("making", model.making(i, what), x.making(i, what));
                }
            }
        }
        Check.holds("too few could be MADE: " + made, made > 1000);
    }

    private void check(String call, long due, long got) {
        if (due != got) {
            isRight = false;
            Check.same("seed " + seed + ": " + call, due, got);
        }
    }

    private int any(int least, int most) {
        return least + random.nextInt(most - least + 1);
    }

    /** Mostly a number of this range, sometimes one just beyond it or far away. */
    private int odd(int least, int most) {
        int way = random.nextInt(40);
        if (way == 0) {
            return ODD[random.nextInt(ODD.length)];
        }
        if (way == 1) {
            return random.nextBoolean() ? least - 1 : most + 1;
        }
        return any(least, most);
    }

    private int table() {
        return odd(0, Math.max(0, tables - 1));
    }

    private int net() {
        return odd(0, Math.max(0, nets - 1));
    }

    private int bits(int many) {
        return odd(1, (1 << many) - 1);
    }

    /** As many bits as these, mostly. */
    private int asMany(int bits, int many) {
        for (int tries = 0; tries < 30; tries++) {
            int other = any(1, (1 << many) - 1);
            if (Integer.bitCount(other) == Integer.bitCount(bits)) {
                return random.nextInt(20) == 0 ? bits(many) : other;
            }
        }
        return bits(many);
    }

    private int number() {
        return random.nextInt(30) == 0 ? odd(-1000, 1000) : any(low, high);
    }

    private void call(int sort) {
        switch (sort) {
            case 1:
                tableCall(any(0, 14));
                break;
            case 2:
                netCall(any(0, 9));
                break;
            case 3:
                rowCall(any(0, 10));
                break;
            case 4:
                anyCall();
                break;
            default:
                mixedCall();
        }
        if (random.nextInt(12) == 0) {
            int by = odd(-8, -2);
            check("status(" + by + ")", model.status(by), x.status(by));
        }
    }

    private void mixedCall() {
        int way = random.nextInt(3);
        if (way == 0) {
            tableCall(any(0, 14));
        } else if (way == 1) {
            netCall(any(0, 9));
        } else {
            rowCall(any(0, 10));
        }
    }

    private void came(int number) {
        tables = number >= 0 ? number + 1 : tables;
    }

    private void newTable() {
        int n = odd(1, 5);
        int m = random.nextBoolean() ? n : odd(1, 5);
        int got = x.table(n, m);
        check("table(" + n + ", " + m + ")", model.table(n, m), got);
        came(got);
        for (int i = 0; i < n && i < 5 && got >= 0; i++) {
            for (int j = 0; j < m && j < 5; j++) {
                int v = number();
                check("set", model.set(got, i, j, v), x.set(got, i, j, v));
            }
        }
    }

    private void dropOrMore() {
        if (tables > 8 || random.nextInt(6) == 0) {
            int got = x.drop();
            check("drop()", model.drop(), got);
            tables = Math.max(0, got);
        } else {
            newTable();
        }
    }

    private void tableCall(int which) {
        int t = table();
        int u = table();
        int n = Math.max(1, x.look(t, 1));
        int m = Math.max(1, x.look(t, 2));
        model.look(t, 1);
        model.look(t, 2);
        int got;
        switch (which) {
            case 0:
            case 1:
                dropOrMore();
                break;
            case 2:
                int i = odd(0, n - 1);
                int j = odd(0, m - 1);
                int v = number();
                check("set(" + t + ", " + i + ", " + j + ", " + v + ")", model.set(t, i, j, v), x.set(t, i, j, v));
                break;
            case 3:
                int p = odd(0, n - 1);
                int q = odd(0, m - 1);
                check("at(" + t + ", " + p + ", " + q + ")", model.at(t, p, q), x.at(t, p, q));
                break;
            case 4:
            case 5:
                int what = odd(0, 7);
                check("look(" + t + ", " + what + ")", model.look(t, what), x.look(t, what));
                break;
            case 6:
            case 7:
                int rows = bits(n);
                int columns = asMany(rows, m);
                String told = "worth(" + t + ", " + rows + ", " + columns + ")";
                check(told, model.worth(t, rows, columns), x.worth(t, rows, columns));
                break;
            case 8:
                boolean strict = random.nextBoolean();
                check("low(" + t + ", " + strict + ")", model.low(t, strict), x.low(t, strict));
                break;
            case 9:
                int sign = odd(-1, 1);
                check("count(" + t + ", " + sign + ")", model.count(t, sign), x.count(t, sign));
                break;
            case 10:
                got = x.product(t, u);
                check("product(" + t + ", " + u + ")", model.product(t, u), got);
                came(got);
                break;
            case 11:
                got = x.sum(t, u);
                check("sum(" + t + ", " + u + ")", model.sum(t, u), got);
                came(got);
                break;
            case 12:
                int some = bits(n);
                int others = bits(m);
                got = x.part(t, some, others);
                check("part(" + t + ", " + some + ", " + others + ")", model.part(t, some, others), got);
                came(got);
                break;
            case 13:
                int how = odd(0, 2);
                got = x.turn(t, how);
                check("turn(" + t + ", " + how + ")", model.turn(t, how), got);
                came(got);
                break;
            default:
                int o = random.nextInt(3) == 0 ? t : u;
                check("same(" + t + ", " + o + ")", model.same(t, o), x.same(t, o));
        }
        wholeTable();
    }

    /** The numbers of one TABLE, so that what a call left wrong is seen. */
    private void wholeTable() {
        int t = tables - 1;
        for (int i = 0; i < 5; i++) {
            for (int j = 0; j < 5; j++) {
                check("at(" + t + ", " + i + ", " + j + ")", model.at(t, i, j), x.at(t, i, j));
            }
        }
        check("kind", model.look(t, 0), x.look(t, 0));
    }

    private int linesOf(int net) {
        for (int n = 5; n > 1; n--) {
            model.families(net, 1 << n - 1, 1);
            if (x.families(net, 1 << n - 1, 1) >= 0) {
                return n;
            }
        }
        return 1;
    }

    private void netCall(int which) {
        int w = net();
        int n = linesOf(w);
        int from = bits(n);
        int to = asMany(from, n);
        int got;
        switch (which) {
            case 0:
                if (nets > 2 && random.nextInt(3) == 0) {
                    got = x.unnet();
                    check("unnet()", model.unnet(), got);
                    nets = Math.max(0, got);
                } else {
                    int lines = odd(1, 5);
                    got = x.net(lines);
                    check("net(" + lines + ")", model.net(lines), got);
                    nets = got >= 0 ? got + 1 : nets;
                }
                break;
            case 1:
            case 2:
            case 3:
            case 4:
                int kind = random.nextInt(4) == 0 ? odd(0, 2) : random.nextInt(2);
                int i = odd(0, Math.max(0, n - (kind == 2 ? 1 : 2)));
                int weight = random.nextInt(3) == 0 ? odd(1, 9) : any(1, 2);
                String told = "step(" + w + ", " + kind + ", " + i + ", " + weight + ")";
                check(told, model.step(w, kind, i, weight), x.step(w, kind, i, weight));
                break;
            case 5:
                if (random.nextInt(3) == 0) {
                    check("back(" + w + ")", model.back(w), x.back(w));
                }
                break;
            case 6:
                if (tables > 10) {
                    tables = x.drop();
                    check("drop()", model.drop(), tables);
                }
                got = x.made(w);
                check("made(" + w + ")", model.made(w), got);
                came(got);
                wholeTable();
                break;
            case 7:
                check("families(" + w + ", " + from + ", " + to + ")", model.families(w, from, to), x.families(w, from, to));
                break;
            case 8:
                check("weight(" + w + ", " + from + ", " + to + ")", model.weight(w, from, to), x.weight(w, from, to));
                break;
            default:
                familyCall(w, from, to);
        }
    }

    private void familyCall(int w, int from, int to) {
        int many = x.families(w, from, to);
        check("families", model.families(w, from, to), many);
        int s = odd(0, 16);
        int k = odd(0, Math.max(0, many - 1));
        int told = (s << 20) + k;
        check("family(" + w + ", " + from + ", " + to + ", " + told + ")", model.family(w, from, to, told), x.family(w, from, to, told));
    }

    private void rowCall(int which) {
        int t = table();
        int got;
        switch (which) {
            case 0:
            case 1:
                int place = odd(0, 15);
                int v = number();
                check("tell(" + place + ", " + v + ")", model.tell(place, v), x.tell(place, v));
                break;
            case 2:
                check("changes(" + t + ")", model.changes(t), x.changes(t));
                break;
            case 3:
                int n = odd(1, 5);
                int k = odd(1, 5);
                got = x.band(n, k);
                check("band(" + n + ", " + k + ")", model.band(n, k), got);
                came(got);
                break;
            case 4:
            case 5:
                check("make(" + t + ")", model.make(t), x.make(t));
                break;
            case 6:
                int step = odd(0, 8);
                int what = odd(0, 3);
                check("making(" + step + ", " + what + ")", model.making(step, what), x.making(step, what));
                break;
            case 7:
                int i = odd(0, 2);
                check("lay(" + t + ", " + i + ")", model.lay(t, i), x.lay(t, i));
                break;
            case 8:
                if (random.nextInt(8) == 0) {
                    check("tear()", model.tear(), x.tear());
                } else {
                    dropOrMore();
                }
                break;
            case 9:
                for (int r = -1; r <= 16; r++) {
                    check("row(" + r + ")", model.row(r), x.row(r));
                }
                break;
            default:
                int from = odd(0, 8);
                int to = odd(0, 8);
                int many = odd(0, 8);
                check("copy(" + from + ", " + to + ", " + many + ")", model.copy(from, to, many), x.copy(from, to, many));
        }
    }

    private int wild() {
        int way = random.nextInt(3);
        return way == 0 ? random.nextInt() : way == 1 ? any(-9, 33) : ODD[random.nextInt(ODD.length)];
    }

    /** Numbers of no sense: nothing may be thrown, and the answers are refusals all the same. */
    private void anyCall() {
        int a = random.nextBoolean() ? any(0, 3) : wild();
        int b = random.nextBoolean() ? any(0, 3) : wild();
        int c = random.nextBoolean() ? any(0, 3) : wild();
        int d = random.nextBoolean() ? any(0, 3) : wild();
        check("table", model.table(a, b), x.table(a, b));
        check("set", model.set(a, b, c, d), x.set(a, b, c, d));
        check("at", model.at(a, b, c), x.at(a, b, c));
        check("look", model.look(a, b), x.look(a, b));
        check("worth", model.worth(a, b, c), x.worth(a, b, c));
        check("low", model.low(a, true), x.low(a, true));
        check("count", model.count(a, b), x.count(a, b));
        check("product", model.product(a, b), x.product(a, b));
        check("sum", model.sum(a, b), x.sum(a, b));
        check("part", model.part(a, b, c), x.part(a, b, c));
        check("turn", model.turn(a, b), x.turn(a, b));
        check("same", model.same(a, b), x.same(a, b));
        check("net", model.net(a), x.net(a));
        check("step", model.step(a, b, c, d), x.step(a, b, c, d));
        check("made", model.made(a), x.made(a));
        check("families", model.families(a, b, c), x.families(a, b, c));
        check("weight", model.weight(a, b, c), x.weight(a, b, c));
        check("family", model.family(a, b, c, d), x.family(a, b, c, d));
        check("back", model.back(d), x.back(d));
        check("tell", model.tell(a, b), x.tell(a, b));
        check("changes", model.changes(a), x.changes(a));
        check("band", model.band(a, b), x.band(a, b));
        check("make", model.make(a), x.make(a));
        check("making", model.making(a, b), x.making(a, b));
        check("lay", model.lay(a, b), x.lay(a, b));
        check("row", model.row(a), x.row(a));
        check("copy", model.copy(a, b, c), x.copy(a, b, c));
        check("status", model.status(a), x.status(a));
        if (random.nextInt(5) == 0) {
            check("drop", model.drop(), x.drop());
            check("unnet", model.unnet(), x.unnet());
            check("tear", model.tear(), x.tear());
        }
    }
}

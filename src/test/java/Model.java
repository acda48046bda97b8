import java.math.BigInteger;
import java.util.ArrayList;
import java.util.Arrays;
import java.util.List;

/**
 * The document once more, in the slowest and plainest way and on other paths than the class:
 * WORTHS by all orders of columns, FAMILIES written out one by one, fractions of BigIntegers.
 */
final class Model {
    static final int NONE = -1;
    static final int MISSING = -2;
    static final int BEYOND = -3;
    static final int BELOW = -4;
    static final int KIND = -5;
    static final int COPY = -6;
    static final int NO = -7;
    static final int FULL = -8;

    private static final class Table {
        int[][] a;
        int kind;
        int net;

        Table(int[][] a, int kind) {
            this.a = a;
            this.kind = kind;
        }

        int rows() {
            return a.length;
        }

        int columns() {
            return a[0].length;
        }
    }

    private static final class Net {
        final int n;
        final List<int[]> steps = new ArrayList<>();

        Net(int n) {
            this.n = n;
        }
    }

    /** A FAMILY: the LINES ahead of each STEP and at the end, and its weight. */
    private static final class Family {
        final List<List<Integer>> lines = new ArrayList<>();
        BigInteger weight = BigInteger.ONE;
    }

    private static final class Part {
        final int rows;
        final int columns;
        final BigInteger worth;

        Part(int rows, int columns, BigInteger worth) {
            this.rows = rows;
            this.columns = columns;
            this.worth = worth;
        }
    }

    private final List<Table> tables = new ArrayList<>();
    private final List<Net> nets = new ArrayList<>();
    private int[] theRow = null;
    private List<long[]> making = new ArrayList<>();
    private final int[] refused = new int[9];

    private int refuse(int by) {
        refused[-by]++;
        return by;
    }

    private int nought(int by) {
        refused[-by]++;
        return 0;
    }

    private Table get(int table) {
        return table >= 0 && table < tables.size() ? tables.get(table) : null;
    }

    private Net getNet(int net) {
        return net >= 0 && net < nets.size() ? nets.get(net) : null;
    }

    private static boolean some(int bits, int many) {
        return bits >= 1 && bits <= (1 << many) - 1;
    }

    private static List<Integer> bits(int set) {
        List<Integer> found = new ArrayList<>();
        for (int k = 0; k < 31; k++) {
            if ((set & 1 << k) != 0) {
                found.add(k);
            }
        }
        return found;
    }

    private static int set(List<Integer> lines) {
        int set = 0;
        for (int line : lines) {
            set |= 1 << line;
        }
        return set;
    }

    private int come(BigInteger[][] a, int kind, int net) {
        if (tables.size() >= 12) {
            return refuse(FULL);
        }
        int[][] numbers = new int[a.length][a[0].length];
        for (int i = 0; i < a.length; i++) {
            for (int j = 0; j < a[0].length; j++) {
                if (a[i][j].abs().compareTo(BigInteger.valueOf(1000)) > 0) {
                    return refuse(FULL);
                }
                numbers[i][j] = a[i][j].intValueExact();
            }
        }
        Table table = new Table(numbers, kind);
        table.net = net;
        tables.add(table);
        return tables.size() - 1;
    }

    private static BigInteger[][] noughts(int n, int m) {
        BigInteger[][] a = new BigInteger[n][m];
        for (BigInteger[] row : a) {
            Arrays.fill(row, BigInteger.ZERO);
        }
        return a;
    }

    private static BigInteger worthOf(Table t, List<Integer> rows, List<Integer> columns) {
        return orders(t, rows, columns, 0, new boolean[columns.size()], 0);
    }

    private static BigInteger orders(Table t, List<Integer> rows, List<Integer> columns, int r, boolean[] used, int inversions) {
        if (r == rows.size()) {
            return inversions % 2 == 0 ? BigInteger.ONE : BigInteger.ONE.negate();
        }
        BigInteger all = BigInteger.ZERO;
        for (int c = 0; c < columns.size(); c++) {
            if (used[c]) {
                continue;
            }
            int more = 0;
            for (int d = c + 1; d < columns.size(); d++) {
                more += used[d] ? 1 : 0;
            }
            used[c] = true;
            BigInteger below = orders(t, rows, columns, r + 1, used, inversions + more);
            used[c] = false;
            all = all.add(below.multiply(BigInteger.valueOf(t.a[rows.get(r)][columns.get(c)])));
        }
        return all;
    }

    private static List<Part> parts(Table t) {
        List<Part> found = new ArrayList<>();
        for (int rows = 1; rows < 1 << t.rows(); rows++) {
            for (int columns = 1; columns < 1 << t.columns(); columns++) {
                if (bits(rows).size() == bits(columns).size()) {
                    found.add(new Part(rows, columns, worthOf(t, bits(rows), bits(columns))));
                }
            }
        }
        found.sort((p, q) -> {
            int bySize = Integer.compare(bits(p.rows).size(), bits(q.rows).size());
            int byRows = Integer.compare(p.rows, q.rows);
            return bySize != 0 ? bySize : byRows != 0 ? byRows : Integer.compare(p.columns, q.columns);
        });
        return found;
    }

    private static boolean unbroken(List<Integer> set) {
        return set.get(set.size() - 1) - set.get(0) == set.size() - 1;
    }

    int table(int n, int m) {
        if (n < 1 || n > 5 || m < 1 || m > 5) {
            return refuse(NO);
        }
        return come(noughts(n, m), 0, 0);
    }

    int set(int table, int i, int j, int v) {
        Table t = get(table);
        if (t == null || i < 0 || j < 0 || i >= t.rows() || j >= t.columns()) {
            return nought(BEYOND);
        }
        if (t.kind != 0) {
            return nought(KIND);
        }
        if (v > 1000 || v < -1000) {
            return nought(NO);
        }
        int before = t.a[i][j];
        t.a[i][j] = v;
        return before;
    }

    int at(int table, int i, int j) {
        Table t = get(table);
        if (t == null || i < 0 || j < 0 || i >= t.rows() || j >= t.columns()) {
            return nought(BEYOND);
        }
        return t.a[i][j];
    }

    int look(int table, int what) {
        Table t = get(table);
        if (t == null) {
            return refuse(BEYOND);
        }
        if (what == 7 && t.kind != 1) {
            return refuse(KIND);
        }
        if (what < 0 || what > 7) {
            return refuse(NO);
        }
        boolean well = true;
        boolean strict = true;
        int looks = 0;
        int above = 0;
        for (Part p : parts(t)) {
            int sign = p.worth.signum();
            well &= sign >= 0;
            strict &= sign > 0;
            boolean look = unbroken(bits(p.rows)) && unbroken(bits(p.columns));
            if (look && ((p.rows & 1) == 1 || (p.columns & 1) == 1)) {
                looks++;
                above += sign > 0 ? 1 : 0;
            }
        }
        int[] answers = {t.kind, t.rows(), t.columns(), well ? 1 : 0, strict ? 1 : 0, looks, above, t.net};
        Check.holds("STRICT just where all LOOKS are above 0", strict == (looks == above));
        return answers[what];
    }

    int drop() {
        if (tables.isEmpty()) {
            return refuse(MISSING);
        }
        tables.remove(tables.size() - 1);
        return tables.size();
    }

    long worth(int table, int rows, int columns) {
        Table t = get(table);
        if (t == null || !some(rows, t.rows()) || !some(columns, t.columns())) {
            return nought(BEYOND);
        }
        if (bits(rows).size() != bits(columns).size()) {
            return nought(NO);
        }
        return worthOf(t, bits(rows), bits(columns)).longValueExact();
    }

    int low(int table, boolean strict) {
        Table t = get(table);
        if (t == null) {
            return refuse(BEYOND);
        }
        for (Part p : parts(t)) {
            if (p.worth.signum() < 0 || strict && p.worth.signum() == 0) {
                return 32 * p.rows + p.columns;
            }
        }
        return NONE;
    }

    int count(int table, int sign) {
        Table t = get(table);
        if (t == null) {
            return refuse(BEYOND);
        }
        if (sign != -1 && sign != 0 && sign != 1) {
            return refuse(NO);
        }
        int many = 0;
        for (Part p : parts(t)) {
            many += p.worth.signum() == sign ? 1 : 0;
        }
        return many;
    }

    int product(int table, int other) {
        Table s = get(table);
        Table t = get(other);
        if (s == null || t == null) {
            return refuse(BEYOND);
        }
        if (s.columns() != t.rows()) {
            return refuse(NO);
        }
        BigInteger[][] a = noughts(s.rows(), t.columns());
        for (int i = 0; i < s.rows(); i++) {
            for (int j = 0; j < t.columns(); j++) {
                for (int k = 0; k < t.rows(); k++) {
                    a[i][j] = a[i][j].add(BigInteger.valueOf((long) s.a[i][k] * t.a[k][j]));
                }
            }
        }
        return come(a, 3, 0);
    }

    int sum(int table, int other) {
        Table s = get(table);
        Table t = get(other);
        if (s == null || t == null) {
            return refuse(BEYOND);
        }
        if (s.rows() != t.rows() || s.columns() != t.columns()) {
            return refuse(NO);
        }
        BigInteger[][] a = noughts(s.rows(), s.columns());
        for (int i = 0; i < s.rows(); i++) {
            for (int j = 0; j < s.columns(); j++) {
                a[i][j] = BigInteger.valueOf(s.a[i][j] + t.a[i][j]);
            }
        }
        return come(a, 3, 0);
    }

    private int pick(Table t, List<Integer> rows, List<Integer> columns, boolean exchanged) {
        BigInteger[][] a = noughts(exchanged ? columns.size() : rows.size(), exchanged ? rows.size() : columns.size());
        for (int i = 0; i < rows.size(); i++) {
            for (int j = 0; j < columns.size(); j++) {
                a[exchanged ? j : i][exchanged ? i : j] = BigInteger.valueOf(t.a[rows.get(i)][columns.get(j)]);
            }
        }
        return come(a, 3, 0);
    }

    int part(int table, int rows, int columns) {
        Table t = get(table);
        if (t == null || !some(rows, t.rows()) || !some(columns, t.columns())) {
            return refuse(BEYOND);
        }
        return pick(t, bits(rows), bits(columns), false);
    }

    int turn(int table, int how) {
        Table t = get(table);
        if (t == null) {
            return refuse(BEYOND);
        }
        if (how != 0 && how != 1 && how != 2) {
            return refuse(NO);
        }
        List<Integer> rows = bits((1 << t.rows()) - 1);
        List<Integer> columns = bits((1 << t.columns()) - 1);
        if (how >= 1) {
            java.util.Collections.reverse(rows);
        }
        if (how == 1) {
            java.util.Collections.reverse(columns);
        }
        return pick(t, rows, columns, how == 0);
    }

    int same(int table, int other) {
        Table s = get(table);
        Table t = get(other);
        if (s == null || t == null) {
            return refuse(BEYOND);
        }
        return Arrays.deepEquals(s.a, t.a) ? 1 : 0;
    }

    int net(int n) {
        if (n < 1 || n > 5) {
            return refuse(NO);
        }
        if (nets.size() == 4) {
            return refuse(FULL);
        }
        nets.add(new Net(n));
        return nets.size() - 1;
    }

    int step(int net, int kind, int i, int weight) {
        Net w = getNet(net);
        if (w == null) {
            return refuse(BEYOND);
        }
        if (kind < 0 || kind > 2 || i < 0 || i > w.n - (kind == 2 ? 1 : 2) || weight < 1 || weight > 9) {
            return refuse(NO);
        }
        if (w.steps.size() == 16) {
            return refuse(FULL);
        }
        w.steps.add(new int[] {kind, i, weight});
        return w.steps.size();
    }

    int back(int net) {
        Net w = getNet(net);
        if (w == null) {
            return refuse(BEYOND);
        }
        if (w.steps.isEmpty()) {
            return refuse(MISSING);
        }
        w.steps.remove(w.steps.size() - 1);
        return w.steps.size();
    }

    /** The product of the STEPS' own tables, which must be the TABLE of the NET. */
    int made(int net) {
        Net w = getNet(net);
        if (w == null) {
            return refuse(BEYOND);
        }
        BigInteger[][] a = noughts(w.n, w.n);
        for (int i = 0; i < w.n; i++) {
            a[i][i] = BigInteger.ONE;
        }
        for (int[] s : w.steps) {
            BigInteger weight = BigInteger.valueOf(s[2]);
            int source = s[0] == 1 ? s[1] + 1 : s[1];
            int goal = s[0] == 0 ? s[1] + 1 : s[1];
            for (int i = 0; i < w.n; i++) {
                BigInteger over = a[i][source].multiply(weight);
                a[i][goal] = s[0] == 2 ? over : a[i][goal].add(over);
            }
        }
        return come(a, 1, net);
    }

    /** All FAMILIES from some LINES to others, in their order: one way after the other stays or goes. */
    private static List<Family> allFamilies(Net w, int from, int to) {
        List<Family> found = new ArrayList<>();
        List<List<Integer>> past = new ArrayList<>();
        past.add(bits(from));
        follow(w, to, past, BigInteger.ONE, found);
        return found;
    }

    private static void follow(Net w, int to, List<List<Integer>> past, BigInteger weight, List<Family> found) {
        int s = past.size() - 1;
        List<Integer> now = past.get(s);
        if (s == w.steps.size()) {
            if (set(now) == to) {
                Family f = new Family();
                f.lines.addAll(past);
                f.weight = weight;
                found.add(f);
            }
            return;
        }
        int[] step = w.steps.get(s);
        BigInteger own = BigInteger.valueOf(step[2]);
        int source = step[0] == 1 ? step[1] + 1 : step[1];
        past.add(now);
        follow(w, to, past, step[0] == 2 && now.contains(source) ? weight.multiply(own) : weight, found);
        past.remove(s + 1);
        int goal = step[0] == 1 ? step[1] : step[1] + 1;
        if (step[0] != 2 && now.contains(source) && !now.contains(goal)) {
            List<Integer> next = new ArrayList<>(now);
            next.set(now.indexOf(source), goal);
            past.add(next);
            follow(w, to, past, weight.multiply(own), found);
            past.remove(s + 1);
        }
    }

    private int fault(Net w, int from, int to) {
        if (w == null || !some(from, w.n) || !some(to, w.n)) {
            return BEYOND;
        }
        return bits(from).size() != bits(to).size() ? NO : 0;
    }

    int families(int net, int from, int to) {
        int fault = fault(getNet(net), from, to);
        return fault != 0 ? refuse(fault) : allFamilies(getNet(net), from, to).size();
    }

    long weight(int net, int from, int to) {
        int fault = fault(getNet(net), from, to);
        if (fault != 0) {
            return nought(fault);
        }
        BigInteger all = BigInteger.ZERO;
        for (Family f : allFamilies(getNet(net), from, to)) {
            all = all.add(f.weight);
        }
        return all.longValueExact();
    }

    int family(int net, int from, int to, int told) {
        int fault = fault(getNet(net), from, to);
        if (fault != 0) {
            return refuse(fault);
        }
        List<Family> all = allFamilies(getNet(net), from, to);
        int s = Math.floorDiv(told, 1048576);
        int k = Math.floorMod(told, 1048576);
        if (s < 0 || s > getNet(net).steps.size() || k >= all.size()) {
            return refuse(BEYOND);
        }
        return set(all.get(k).lines.get(s));
    }

    int unnet() {
        if (nets.isEmpty()) {
            return refuse(MISSING);
        }
        nets.remove(nets.size() - 1);
        return nets.size();
    }

    int tell(int i, int v) {
        if (i < 0 || i > 15) {
            return refuse(BEYOND);
        }
        if (v > 1000 || v < -1000) {
            return refuse(NO);
        }
        if (theRow == null) {
            theRow = new int[16];
        }
        theRow[i] = v;
        return 1;
    }

    private static int changesOf(List<Integer> numbers) {
        List<Integer> rest = new ArrayList<>(numbers);
        rest.removeIf(v -> v == 0);
        int many = 0;
        for (int k = 1; k < rest.size(); k++) {
            many += rest.get(k - 1) > 0 != rest.get(k) > 0 ? 1 : 0;
        }
        return many;
    }

    int changes(int table) {
        Table t = get(table);
        if (t == null) {
            return refuse(BEYOND);
        }
        if (theRow == null) {
            return refuse(MISSING);
        }
        List<Integer> put = new ArrayList<>();
        List<Integer> brought = new ArrayList<>();
        for (int j = 0; j < t.columns(); j++) {
            put.add(theRow[j]);
        }
        for (int[] row : t.a) {
            int all = 0;
            for (int j = 0; j < row.length; j++) {
                all += row[j] * theRow[j];
            }
            brought.add(all);
        }
        return 10 * changesOf(put) + changesOf(brought);
    }

    int band(int n, int k) {
        if (theRow == null) {
            return refuse(MISSING);
        }
        if (n < 1 || n > 5 || k < 1 || k > 5) {
            return refuse(NO);
        }
        BigInteger[][] a = noughts(n, n);
        for (int i = 0; i < n; i++) {
            for (int j = 0; j < n; j++) {
                int place = j - i;
                a[i][j] = BigInteger.valueOf(place >= 0 && place < k ? theRow[place] : 0);
            }
        }
        return come(a, 2, 0);
    }

    int make(int table) {
        Table t = get(table);
        if (t == null) {
            return refuse(BEYOND);
        }
        int n = t.rows();
        if (n != t.columns() || n > 3) {
            return refuse(NO);
        }
        Fraction[][] a = new Fraction[n][n];
        for (int i = 0; i < n; i++) {
            for (int j = 0; j < n; j++) {
                a[i][j] = new Fraction(BigInteger.valueOf(t.a[i][j]), BigInteger.ONE);
            }
        }
        making = new ArrayList<>();
        boolean made = clear(a, 1);
        if (made) {
            a = exchanged(a);
            made = clear(a, 0);
        }
        for (int i = 0; i < n && made; i++) {
            making.add(new long[] {2, i, a[i][i].upper.longValueExact(), a[i][i].lower.longValueExact()});
        }
        for (long[] step : making) {
            made &= step[2] > 0;
        }
        if (!made) {
            making = new ArrayList<>();
        }
        return making.size();
    }

    private boolean clear(Fraction[][] a, int kind) {
        for (int c = 0; c < a.length; c++) {
            for (int r = a.length - 1; r > c; r--) {
                if (a[r][c].upper.signum() == 0) {
                    continue;
                }
                if (a[r - 1][c].upper.signum() == 0) {
                    return false;
                }
                Fraction share = a[r][c].by(a[r - 1][c]);
                for (int j = 0; j < a.length; j++) {
                    a[r][j] = a[r][j].less(a[r - 1][j].times(share));
                }
                long upper = share.upper.signum() < 0 ? -1 : share.upper.longValueExact();
                making.add(new long[] {kind, r - 1, upper, upper < 0 ? 1 : share.lower.longValueExact()});
            }
        }
        return true;
    }

    private static Fraction[][] exchanged(Fraction[][] a) {
        Fraction[][] b = new Fraction[a.length][a.length];
        for (int i = 0; i < a.length; i++) {
            for (int j = 0; j < a.length; j++) {
                b[j][i] = a[i][j];
            }
        }
        return b;
    }

    long making(int i, int what) {
        if (i < 0 || i >= making.size()) {
            return nought(BEYOND);
        }
        if (what < 0 || what > 3) {
            return nought(NO);
        }
        return making.get(i)[what];
    }

    int lay(int table, int i) {
        Table t = get(table);
        if (t == null || i < 0 || i >= t.rows()) {
            return refuse(BEYOND);
        }
        theRow = Arrays.copyOf(t.a[i], 16);
        return t.columns();
    }

    int tear() {
        int was = theRow == null ? 0 : 1;
        theRow = null;
        return was;
    }

    int row(int i) {
        if (theRow == null) {
            return nought(MISSING);
        }
        if (i < 0 || i > 15) {
            return nought(BEYOND);
        }
        return theRow[i];
    }

    int copy(int i, int j, int n) {
        if (theRow == null) {
            return refuse(MISSING);
        }
        if (n < 0) {
            return refuse(BELOW);
        }
        if (i < 0 || j < 0 || (long) i + n > 16 || (long) j + n > 16) {
            return refuse(COPY);
        }
        int[] old = theRow.clone();
        for (int k = 0; k < n; k++) {
            theRow[j + k] = old[i + k];
        }
        return n;
    }

    int status(int by) {
        if (by > -2 || by < -8) {
            return refuse(NO);
        }
        return refused[-by];
    }

    /** In lowest terms, the lower number above 0. */
    private static final class Fraction {
        final BigInteger upper;
        final BigInteger lower;

        Fraction(BigInteger upper, BigInteger lower) {
            BigInteger common = upper.gcd(lower);
            BigInteger sign = BigInteger.valueOf(lower.signum());
            this.upper = upper.divide(common).multiply(sign);
            this.lower = lower.divide(common).multiply(sign);
        }

        Fraction times(Fraction other) {
            return new Fraction(upper.multiply(other.upper), lower.multiply(other.lower));
        }

        Fraction by(Fraction other) {
            return new Fraction(upper.multiply(other.lower), lower.multiply(other.upper));
        }

        Fraction less(Fraction other) {
            return new Fraction(upper.multiply(other.lower).subtract(other.upper.multiply(lower)), lower.multiply(other.lower));
        }
    }
}

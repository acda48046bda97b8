import java.util.Arrays;

/**
 * A bench for small tables whose worths are watched; ../shared/DOC.md says what each call answers.
 * All rows are made with the object and used again, since all calls of a run share one room.
 */
public final class WellTables {
    public static final int NONE = -1;
    public static final int MISSING = -2;
    public static final int BEYOND = -3;
    public static final int BELOW = -4;
    public static final int KIND = -5;
    public static final int COPY = -6;
    public static final int NO = -7;
    public static final int FULL = -8;

    private static final int SIDE = 5;
    private static final int SETS = 1 << SIDE;
    private static final int TABLES_AT_MOST = 12;
    private static final int NETS_AT_MOST = 4;
    private static final int STEPS_AT_MOST = 16;
    private static final int HEAVIEST = 9;
    private static final int PLACES = 16;
    private static final int HIGHEST = 1000;
    private static final int MAKING_SIDE = 3;
    private static final int MAKING_STEPS = 9;
    private static final int FAMILY_BITS = 20;

    private static final int PLAIN = 0;
    private static final int OF_NET = 1;
    private static final int OF_ROW = 2;
    private static final int OF_TABLES = 3;

    private static final int UP = 0;
    private static final int DOWN = 1;
    private static final int ON = 2;

    private final Grid[] grids = new Grid[TABLES_AT_MOST];
    private int gridCount;
    private final Web[] webs = new Web[NETS_AT_MOST];
    private int webCount;
    private final int[] theRow = new int[PLACES];
    private boolean rowIsThere;
    private final int[] brought = new int[SIDE];
    private final int[] refusals = new int[-FULL + 1];
    private final Worths worths = new Worths();
    private final Ways ways = new Ways();
    private final Maker maker = new Maker();

    public WellTables() {
        for (int k = 0; k < TABLES_AT_MOST; k++) {
            grids[k] = new Grid();
        }
        for (int k = 0; k < NETS_AT_MOST; k++) {
            webs[k] = new Web();
        }
    }

    // ---- tables

    public int table(int n, int m) {
        if (!isSide(n) || !isSide(m)) {
            return refused(NO);
        }
        Grid next = freeGrid();
        if (next == null) {
            return refused(FULL);
        }
        next.begin(n, m, PLAIN);
        return come(next);
    }

    public int set(int table, int i, int j, int v) {
        Grid grid = gridOf(table);
        if (grid == null || !grid.reaches(i, j)) {
            return nought(BEYOND);
        }
        if (grid.kind != PLAIN) {
            return nought(KIND);
        }
        if (!isNumber(v)) {
            return nought(NO);
        }
        int before = grid.number(i, j);
        grid.put(i, j, v);
        return before;
    }

    public int at(int table, int i, int j) {
        Grid grid = gridOf(table);
        if (grid == null || !grid.reaches(i, j)) {
            return nought(BEYOND);
        }
        return grid.number(i, j);
    }

    public int look(int table, int what) {
        Grid grid = gridOf(table);
        if (grid == null) {
            return refused(BEYOND);
        }
        switch (what) {
            case 0:
                return grid.kind;
            case 1:
                return grid.rows;
            case 2:
                return grid.columns;
            case 3:
                return worths.firstLow(grid, false) == NONE ? 1 : 0;
            case 4:
                return worths.firstLow(grid, true) == NONE ? 1 : 0;
            case 5:
                return worths.looks(grid, false);
            case 6:
                return worths.looks(grid, true);
            case 7:
                return grid.kind == OF_NET ? grid.net : refused(KIND);
            default:
                return refused(NO);
        }
    }

    public int drop() {
        if (gridCount == 0) {
            return refused(MISSING);
        }
        gridCount--;
        return gridCount;
    }

    public long worth(int table, int rows, int columns) {
        Grid grid = gridOf(table);
        if (grid == null || !areSome(rows, grid.rows) || !areSome(columns, grid.columns)) {
            return nought(BEYOND);
        }
        if (!areAsMany(rows, columns)) {
            return nought(NO);
        }
        return worths.ofPart(grid, rows, columns);
    }

    public int low(int table, boolean strict) {
        Grid grid = gridOf(table);
        if (grid == null) {
            return refused(BEYOND);
        }
        return worths.firstLow(grid, strict);
    }

    public int count(int table, int sign) {
        Grid grid = gridOf(table);
        if (grid == null) {
            return refused(BEYOND);
        }
        if (sign < -1 || sign > 1) {
            return refused(NO);
        }
        return worths.manyOf(grid, sign);
    }

    public int product(int table, int other) {
        Grid left = gridOf(table);
        Grid right = gridOf(other);
        if (left == null || right == null) {
            return refused(BEYOND);
        }
        if (left.columns != right.rows) {
            return refused(NO);
        }
        Grid next = freeGrid();
        if (next == null) {
            return refused(FULL);
        }
        next.begin(left.rows, right.columns, OF_TABLES);
        for (int i = 0; i < left.rows; i++) {
            for (int j = 0; j < right.columns; j++) {
                next.put(i, j, rowByColumn(left, i, right, j));
            }
        }
        return come(next);
    }

    public int sum(int table, int other) {
        Grid first = gridOf(table);
        Grid second = gridOf(other);
        if (first == null || second == null) {
            return refused(BEYOND);
        }
        if (first.rows != second.rows || first.columns != second.columns) {
            return refused(NO);
        }
        Grid next = freeGrid();
        if (next == null) {
            return refused(FULL);
        }
        next.begin(first.rows, first.columns, OF_TABLES);
        for (int i = 0; i < first.rows; i++) {
            for (int j = 0; j < first.columns; j++) {
                next.put(i, j, first.number(i, j) + second.number(i, j));
            }
        }
        return come(next);
    }

    public int part(int table, int rows, int columns) {
        Grid grid = gridOf(table);
        if (grid == null || !areSome(rows, grid.rows) || !areSome(columns, grid.columns)) {
            return refused(BEYOND);
        }
        Grid next = freeGrid();
        if (next == null) {
            return refused(FULL);
        }
        next.begin(Integer.bitCount(rows), Integer.bitCount(columns), OF_TABLES);
        int row = 0;
        for (int i = 0; i < grid.rows; i++) {
            if (holds(rows, i)) {
                takeRow(next, row, grid, i, columns);
                row++;
            }
        }
        return come(next);
    }

    public int turn(int table, int how) {
        Grid grid = gridOf(table);
        if (grid == null) {
            return refused(BEYOND);
        }
        if (how < 0 || how > 2) {
            return refused(NO);
        }
        Grid next = freeGrid();
        if (next == null) {
            return refused(FULL);
        }
        if (how == 0) {
            exchange(next, grid);
        } else {
            reverse(next, grid, how == 1);
        }
        return come(next);
    }

    public int same(int table, int other) {
        Grid first = gridOf(table);
        Grid second = gridOf(other);
        if (first == null || second == null) {
            return refused(BEYOND);
        }
        if (first.rows != second.rows || first.columns != second.columns) {
            return 0;
        }
        for (int i = 0; i < first.rows; i++) {
            for (int j = 0; j < first.columns; j++) {
                if (first.number(i, j) != second.number(i, j)) {
                    return 0;
                }
            }
        }
        return 1;
    }

    // ---- nets

    public int net(int n) {
        if (!isSide(n)) {
            return refused(NO);
        }
        if (webCount >= NETS_AT_MOST) {
            return refused(FULL);
        }
        Web web = webs[webCount];
        if (web == null) {
            return refused(FULL);
        }
        web.begin(n);
        webCount++;
        return webCount - 1;
    }

    public int step(int net, int kind, int i, int weight) {
        Web web = webOf(net);
        if (web == null) {
            return refused(BEYOND);
        }
        if (!web.takes(kind, i) || weight < 1 || weight > HEAVIEST) {
            return refused(NO);
        }
        if (web.steps >= STEPS_AT_MOST) {
            return refused(FULL);
        }
        web.add(kind, i, weight);
        return web.steps;
    }

    public int back(int net) {
        Web web = webOf(net);
        if (web == null) {
            return refused(BEYOND);
        }
        if (web.steps == 0) {
            return refused(MISSING);
        }
        web.steps--;
        return web.steps;
    }

    public int made(int net) {
        Web web = webOf(net);
        if (web == null) {
            return refused(BEYOND);
        }
        Grid next = freeGrid();
        if (next == null) {
            return refused(FULL);
        }
        next.begin(web.lines, web.lines, OF_NET);
        next.net = net;
        for (int i = 0; i < web.lines; i++) {
            for (int j = 0; j < web.lines; j++) {
                next.put(i, j, ways.lead(web, 1 << i, 1 << j, true));
            }
        }
        return come(next);
    }

    public int families(int net, int from, int to) {
        return (int) leading(net, from, to, false);
    }

    public long weight(int net, int from, int to) {
        return Math.max(0, leading(net, from, to, true));
    }

    public int family(int net, int from, int to, int told) {
        long many = leading(net, from, to, false);
        if (many < 0) {
            return (int) many;
        }
        Web web = webOf(net);
        int step = told >> FAMILY_BITS;
        int place = told & (1 << FAMILY_BITS) - 1;
        if (web == null || step < 0 || step > web.steps || place >= many) {
            return refused(BEYOND);
        }
        return ways.linesAhead(web, from, step, place);
    }

    public int unnet() {
        if (webCount == 0) {
            return refused(MISSING);
        }
        webCount--;
        return webCount;
    }

    // ---- signs, bands, making

    public int tell(int i, int v) {
        if (i < 0 || i >= PLACES) {
            return refused(BEYOND);
        }
        if (!isNumber(v)) {
            return refused(NO);
        }
        if (!rowIsThere) {
            emptyTheRow();
        }
        theRow[i] = v;
        return 1;
    }

    public int changes(int table) {
        Grid grid = gridOf(table);
        if (grid == null) {
            return refused(BEYOND);
        }
        if (!rowIsThere) {
            return refused(MISSING);
        }
        for (int i = 0; i < grid.rows; i++) {
            brought[i] = 0;
            for (int j = 0; j < grid.columns; j++) {
                brought[i] += grid.number(i, j) * theRow[j];
            }
        }
        return 10 * signChanges(theRow, grid.columns) + signChanges(brought, grid.rows);
    }

    public int band(int n, int k) {
        if (!rowIsThere) {
            return refused(MISSING);
        }
        if (!isSide(n) || !isSide(k)) {
            return refused(NO);
        }
        Grid next = freeGrid();
        if (next == null) {
            return refused(FULL);
        }
        next.begin(n, n, OF_ROW);
        for (int i = 0; i < n; i++) {
            for (int j = i; j < n && j - i < k; j++) {
                next.put(i, j, theRow[j - i]);
            }
        }
        return come(next);
    }

    public int make(int table) {
        Grid grid = gridOf(table);
        if (grid == null) {
            return refused(BEYOND);
        }
        if (grid.rows != grid.columns || grid.rows > MAKING_SIDE) {
            return refused(NO);
        }
        return maker.takeApart(grid);
    }

    public long making(int i, int what) {
        if (i < 0 || i >= maker.steps) {
            return nought(BEYOND);
        }
        switch (what) {
            case 0:
                return maker.kinds[i];
            case 1:
                return maker.lines[i];
            case 2:
                return maker.uppers[i];
            case 3:
                return maker.lowers[i];
            default:
                return nought(NO);
        }
    }

    // ---- rows

    public int lay(int table, int i) {
        Grid grid = gridOf(table);
        if (grid == null || !grid.reaches(i, 0)) {
            return refused(BEYOND);
        }
        emptyTheRow();
        for (int j = 0; j < grid.columns; j++) {
            theRow[j] = grid.number(i, j);
        }
        return grid.columns;
    }

    public int tear() {
        int was = rowIsThere ? 1 : 0;
        rowIsThere = false;
        return was;
    }

    public int row(int i) {
        if (!rowIsThere) {
            return nought(MISSING);
        }
        if (i < 0 || i >= PLACES) {
            return nought(BEYOND);
        }
        return theRow[i];
    }

    public int copy(int i, int j, int n) {
        if (!rowIsThere) {
            return refused(MISSING);
        }
        if (n < 0) {
            return refused(BELOW);
        }
        // Taken from 16 and not added to, since i + n could wrap round.
        if (i < 0 || j < 0 || n > PLACES - i || n > PLACES - j) {
            return refused(COPY);
        }
        System.arraycopy(theRow, i, theRow, j, n);
        return n;
    }

    public int status(int by) {
        if (by < FULL || by > MISSING) {
            return refused(NO);
        }
        return refusals[-by];
    }

    // ---- what the calls share

    private int refused(int by) {
        if (by >= FULL && by <= MISSING) {
            refusals[-by]++;
        }
        return by;
    }

    /** For the calls whose own answers may be any number: they tell 0, and status() alone knows. */
    private int nought(int by) {
        refused(by);
        return 0;
    }

    private Grid gridOf(int table) {
        return table < 0 || table >= gridCount ? null : grids[table];
    }

    private Web webOf(int net) {
        return net < 0 || net >= webCount ? null : webs[net];
    }

    /** Filled before come() counts it, so that a TABLE that turns out too big leaves no trace. */
    private Grid freeGrid() {
        return gridCount >= TABLES_AT_MOST ? null : grids[gridCount];
    }

    private int come(Grid next) {
        if (!next.fits) {
            return refused(FULL);
        }
        gridCount++;
        return gridCount - 1;
    }

    /** How many FAMILIES, or the sum of their weights; below 0 it is the refusal, already counted. */
    private long leading(int net, int from, int to, boolean weighed) {
        Web web = webOf(net);
        if (web == null || !areSome(from, web.lines) || !areSome(to, web.lines)) {
            return refused(BEYOND);
        }
        if (!areAsMany(from, to)) {
            return refused(NO);
        }
        return ways.lead(web, from, to, weighed);
    }

    private void emptyTheRow() {
        Arrays.fill(theRow, 0);
        rowIsThere = true;
    }

    private static boolean isSide(int n) {
        return n >= 1 && n <= SIDE;
    }

    private static boolean isNumber(long v) {
        return v >= -HIGHEST && v <= HIGHEST;
    }

    private static boolean areSome(int bits, int many) {
        return bits > 0 && bits < 1 << many;
    }

    private static boolean areAsMany(int bits, int others) {
        return Integer.bitCount(bits) == Integer.bitCount(others);
    }

    private static boolean holds(int bits, int i) {
        return (bits >> i & 1) == 1;
    }

    private static int signOf(long v) {
        return v > 0 ? 1 : v < 0 ? -1 : 0;
    }

    private static int rowByColumn(Grid left, int i, Grid right, int j) {
        int all = 0;
        for (int k = 0; k < left.columns; k++) {
            all += left.number(i, k) * right.number(k, j);
        }
        return all;
    }

    private static void takeRow(Grid next, int row, Grid grid, int i, int columns) {
        int column = 0;
        for (int j = 0; j < grid.columns; j++) {
            if (holds(columns, j)) {
                next.put(row, column, grid.number(i, j));
                column++;
            }
        }
    }

    private static void exchange(Grid next, Grid grid) {
        next.begin(grid.columns, grid.rows, OF_TABLES);
        for (int i = 0; i < grid.rows; i++) {
            for (int j = 0; j < grid.columns; j++) {
                next.put(j, i, grid.number(i, j));
            }
        }
    }

    private static void reverse(Grid next, Grid grid, boolean columnsToo) {
        next.begin(grid.rows, grid.columns, OF_TABLES);
        for (int i = 0; i < grid.rows; i++) {
            for (int j = 0; j < grid.columns; j++) {
                int column = columnsToo ? grid.columns - 1 - j : j;
                next.put(grid.rows - 1 - i, column, grid.number(i, j));
            }
        }
    }

    private static int signChanges(int[] numbers, int many) {
        int changed = 0;
        int last = 0;
        for (int k = 0; k < many && k < numbers.length; k++) {
            int sign = signOf(numbers[k]);
            if (sign == -last && sign != 0) {
                changed++;
            }
            if (sign != 0) {
                last = sign;
            }
        }
        return changed;
    }

    /** A TABLE. */
    private static final class Grid {
        private final int[] numbers = new int[SIDE * SIDE];
        private int rows;
        private int columns;
        private int kind;
        private int net;
        private boolean fits;

        void begin(int newRows, int newColumns, int newKind) {
            rows = newRows;
            columns = newColumns;
            kind = newKind;
            net = NONE;
            fits = true;
            Arrays.fill(numbers, 0);
        }

        boolean reaches(int i, int j) {
            return i >= 0 && i < rows && j >= 0 && j < columns;
        }

        int number(int i, int j) {
            return reaches(i, j) ? numbers[SIDE * i + j] : 0;
        }

        /** Takes a long, since a NET's sums may be far beyond an int before they are found too big. */
        void put(int i, int j, long v) {
            if (!isNumber(v)) {
                fits = false;
            } else if (reaches(i, j)) {
                numbers[SIDE * i + j] = (int) v;
            }
        }
    }

    /** The WORTHS of a TABLE's PARTS. */
    private static final class Worths {
        private final long[] found = new long[SETS];
        private final int[] chosen = new int[SIDE];

        long ofPart(Grid grid, int rows, int columns) {
            findAll(grid, rows);
            return columns >= 0 && columns < SETS ? found[columns] : 0;
        }

        int firstLow(Grid grid, boolean strict) {
            for (int size = 1; size <= Math.min(grid.rows, grid.columns); size++) {
                for (int rows = 1; rows < 1 << grid.rows; rows++) {
                    if (Integer.bitCount(rows) == size) {
                        int columns = firstLowColumns(grid, rows, strict);
                        if (columns != NONE) {
                            return SETS * rows + columns;
                        }
                    }
                }
            }
            return NONE;
        }

        private int firstLowColumns(Grid grid, int rows, boolean strict) {
            findAll(grid, rows);
            for (int columns = 1; columns < 1 << grid.columns; columns++) {
                boolean isLow = strict ? found[columns] <= 0 : found[columns] < 0;
                if (isLow && areAsMany(rows, columns)) {
                    return columns;
                }
            }
            return NONE;
        }

        int manyOf(Grid grid, int sign) {
            int many = 0;
            for (int rows = 1; rows < 1 << grid.rows; rows++) {
                findAll(grid, rows);
                for (int columns = 1; columns < 1 << grid.columns; columns++) {
                    if (areAsMany(rows, columns) && signOf(found[columns]) == sign) {
                        many++;
                    }
                }
            }
            return many;
        }

        int looks(Grid grid, boolean onlyAbove) {
            int many = 0;
            for (int size = 1; size <= Math.min(grid.rows, grid.columns); size++) {
                for (int i = 0; i + size <= grid.rows; i++) {
                    findAll(grid, stretch(i, size));
                    for (int j = 0; j + size <= grid.columns; j++) {
                        boolean isLook = i == 0 || j == 0;
                        if (isLook && (!onlyAbove || found[stretch(j, size)] > 0)) {
                            many++;
                        }
                    }
                }
            }
            return many;
        }

        private static int stretch(int first, int size) {
            return (1 << size) - 1 << first;
        }

        /**
         * Leaves in found[columns] the WORTH of the rows with as many columns. On the way there it
         * stands for the first of the rows with fewer columns, so each is built from smaller ones.
         */
        private void findAll(Grid grid, int rows) {
            int many = choose(rows);
            found[0] = 1;
            for (int columns = 1; columns < 1 << grid.columns; columns++) {
                int size = Integer.bitCount(columns);
                if (size <= many) {
                    found[columns] = alongLastRow(grid, chosen[size - 1], columns);
                }
            }
        }

        private int choose(int rows) {
            int many = 0;
            for (int i = 0; i < SIDE; i++) {
                if (holds(rows, i)) {
                    chosen[many] = i;
                    many++;
                }
            }
            return many;
        }

        private long alongLastRow(Grid grid, int row, int columns) {
            long all = 0;
            long sign = 1;
            for (int j = grid.columns - 1; j >= 0; j--) {
                if (holds(columns, j)) {
                    all += sign * grid.number(row, j) * found[columns ^ 1 << j];
                    sign = -sign;
                }
            }
            return all;
        }
    }

    /** A NET. */
    private static final class Web {
        private final int[] kinds = new int[STEPS_AT_MOST];
        private final int[] places = new int[STEPS_AT_MOST];
        private final int[] weights = new int[STEPS_AT_MOST];
        private int lines;
        private int steps;

        void begin(int newLines) {
            lines = newLines;
            steps = 0;
        }

        boolean takes(int kind, int i) {
            if (kind == UP || kind == DOWN) {
                return i >= 0 && i < lines - 1;
            }
            return kind == ON && i >= 0 && i < lines;
        }

        void add(int kind, int i, int weight) {
            if (steps < STEPS_AT_MOST) {
                kinds[steps] = kind;
                places[steps] = i;
                weights[steps] = weight;
                steps++;
            }
        }

        boolean isWeighedOn(int step, int taken) {
            return kinds[step] == ON && holds(taken, places[step]);
        }

        /** The LINES taken when one goes over at a STEP: the same as before, if none can go. */
        int afterGoing(int step, int taken) {
            if (kinds[step] == ON) {
                return taken;
            }
            int low = places[step];
            int source = kinds[step] == UP ? low : low + 1;
            int goal = kinds[step] == UP ? low + 1 : low;
            boolean goes = holds(taken, source) && !holds(taken, goal);
            return goes ? taken ^ (1 << source | 1 << goal) : taken;
        }
    }

    /** The FAMILIES of a NET, by what still lies ahead of them. */
    private static final class Ways {
        private final long[] ahead = new long[(STEPS_AT_MOST + 1) * SETS];

        /** Each FAMILY counts for its weight, or for 1. The rows stay for linesAhead(). */
        long lead(Web web, int from, int to, boolean weighed) {
            for (int taken = 0; taken < SETS; taken++) {
                ahead[web.steps * SETS + taken] = taken == to ? 1 : 0;
            }
            for (int step = web.steps - 1; step >= 0; step--) {
                for (int taken = 0; taken < SETS; taken++) {
                    ahead[step * SETS + taken] = fromStep(web, step, taken, weighed);
                }
            }
            return from >= 0 && from < SETS ? ahead[from] : 0;
        }

        private long fromStep(Web web, int step, int taken, boolean weighed) {
            long weight = weighed ? web.weights[step] : 1;
            long staying = ahead[(step + 1) * SETS + taken];
            if (web.isWeighedOn(step, taken)) {
                return weight * staying;
            }
            int gone = web.afterGoing(step, taken);
            return gone == taken ? staying : staying + weight * ahead[(step + 1) * SETS + gone];
        }

        int linesAhead(Web web, int from, int until, int place) {
            int taken = from;
            long left = place;
            for (int step = 0; step < until && step < web.steps; step++) {
                int gone = web.afterGoing(step, taken);
                long staying = ahead[(step + 1) * SETS + taken];
                if (gone != taken && left >= staying) {
                    left -= staying;
                    taken = gone;
                }
            }
            return taken;
        }
    }

    /** The MAKING of a TABLE; its fractions are kept in lowest terms, the lower number above 0. */
    private static final class Maker {
        private final int[] kinds = new int[MAKING_STEPS];
        private final int[] lines = new int[MAKING_STEPS];
        private final long[] uppers = new long[MAKING_STEPS];
        private final long[] lowers = new long[MAKING_STEPS];
        private int steps;
        private int size;
        private final long[] restUppers = new long[MAKING_SIDE * MAKING_SIDE];
        private final long[] restLowers = new long[MAKING_SIDE * MAKING_SIDE];
        private long shareUpper;
        private long shareLower;

        int takeApart(Grid grid) {
            begin(grid);
            boolean isMade = clear(DOWN) && clear(UP) && standOnLine();
            if (!isMade) {
                steps = 0;
            }
            return steps;
        }

        private void begin(Grid grid) {
            size = Math.min(grid.rows, MAKING_SIDE);
            steps = 0;
            for (int i = 0; i < size; i++) {
                for (int j = 0; j < size; j++) {
                    restUppers[placeOf(DOWN, i, j)] = grid.number(i, j);
                    restLowers[placeOf(DOWN, i, j)] = 1;
                }
            }
        }

        /** UP is DOWN with rows and columns exchanged. */
        private static int placeOf(int kind, int i, int j) {
            return kind == UP ? MAKING_SIDE * j + i : MAKING_SIDE * i + j;
        }

        private boolean clear(int kind) {
            for (int column = 0; column < size; column++) {
                for (int row = size - 1; row > column; row--) {
                    int here = placeOf(kind, row, column);
                    if (restUppers[here] == 0) {
                        continue;
                    }
                    if (!findShare(here, placeOf(kind, row - 1, column))) {
                        return false;
                    }
                    note(kind, row - 1, shareUpper, shareLower);
                    takeRowAbove(kind, row, column);
                }
            }
            return true;
        }

        /** A SHARE below 0 may end it at once, since the TABLE can't be MADE any more. */
        private boolean findShare(int here, int above) {
            if (signOf(restUppers[here]) * signOf(restUppers[above]) <= 0) {
                return false;
            }
            long hereUpper = Math.abs(restUppers[here]);
            long aboveUpper = Math.abs(restUppers[above]);
            long common = commonOf(hereUpper, aboveUpper);
            long commonLower = commonOf(restLowers[here], restLowers[above]);
            shareUpper = without(hereUpper, common) * without(restLowers[above], commonLower);
            shareLower = without(aboveUpper, common) * without(restLowers[here], commonLower);
            return true;
        }

        /** Ahead of the column both rows are 0 already; in it, nothing is left by what SHARE is. */
        private void takeRowAbove(int kind, int row, int column) {
            restUppers[placeOf(kind, row, column)] = 0;
            restLowers[placeOf(kind, row, column)] = 1;
            for (int j = column + 1; j < size; j++) {
                takeShare(placeOf(kind, row, j), placeOf(kind, row - 1, j));
            }
        }

        /** Made lowest before it multiplies: else it could pass a long's end. */
        private void takeShare(int here, int above) {
            if (restUppers[above] == 0) {
                return;
            }
            long first = commonOf(shareUpper, restLowers[above]);
            long second = commonOf(restUppers[above], shareLower);
            long upper = without(shareUpper, first) * without(restUppers[above], second);
            long lower = without(shareLower, second) * without(restLowers[above], first);
            long left = restUppers[here] * lower - upper * restLowers[here];
            long leftLower = restLowers[here] * lower;
            long common = commonOf(left, leftLower);
            restUppers[here] = without(left, common);
            restLowers[here] = without(leftLower, common);
        }

        private boolean standOnLine() {
            for (int i = 0; i < size; i++) {
                int here = placeOf(ON, i, i);
                if (restUppers[here] <= 0) {
                    return false;
                }
                note(ON, i, restUppers[here], restLowers[here]);
            }
            return true;
        }

        private void note(int kind, int line, long upper, long lower) {
            if (steps < MAKING_STEPS) {
                kinds[steps] = kind;
                lines[steps] = line;
                uppers[steps] = upper;
                lowers[steps] = lower;
                steps++;
            }
        }

        private static long commonOf(long a, long b) {
            long more = Math.abs(a);
            long less = Math.abs(b);
            // Two longs have found what they share after 91 turns at most.
            for (int turns = 0; turns < 100 && less != 0; turns++) {
                long rest = more % less;
                more = less;
                less = rest;
            }
            return more;
        }

        private static long without(long number, long common) {
            return common > 1 ? number / common : number;
        }
    }
}

/**
 * Cells of crystals by the products of their edges: reduced, their symmetry,
 * their multiples and what these have in common, steps and their lengths.
 */
public final class CellBench {
    public static final int NONE = -1;

    private static final int MOST_CELLS = 40;
    private static final int HIGHEST_PRODUCT = 10_000;
    private static final int HIGHEST_MULTIPLE = 12;
    private static final int MATRICES = 19_683;
    private static final int COLUMNS = 27;
    private static final int FARTHEST = 1_000;
    private static final int SHORT_REACH = 4;

    private final Cell[] cells;
    private final Reducer reducer;
    private final MultipleTable table;
    private final MultipleTable otherTable;
    private int count;

    public CellBench() {
        cells = new Cell[MOST_CELLS];
        reducer = new Reducer();
        table = new MultipleTable(reducer);
        otherTable = new MultipleTable(reducer);
        count = 0;
    }

    public int cell(int a, int b, int c, int d, int e, int f) {
        if (count < 0 || count >= cells.length) {
            return NONE;
        }
        if (!isSquare(a) || !isSquare(b) || !isSquare(c)) {
            return NONE;
        }
        if (!isMixed(d) || !isMixed(e) || !isMixed(f)) {
            return NONE;
        }
        Products told = new Products(a, b, c, d, e, f);
        if (!told.spanASpace()) {
            return NONE;
        }
        reducer.reduce(told);
        Products low = reducer.result();
        cells[count] = new Cell(told, low, low.countKeepers(), reducer.shears());
        count++;
        return count - 1;
    }

    public long reduced(int cell, int what) {
        Cell found = find(cell);
        if (found == null) {
            return 0;
        }
        switch (what) {
            case 6:
                return found.symmetry;
            case 7:
                return found.low.determinant();
            case 8:
                return found.shears;
            default:
                return found.low.at(what);
        }
    }

    public boolean keeps(int cell, int nine) {
        Cell found = find(cell);
        if (found == null || nine < 0 || nine >= MATRICES) {
            return false;
        }
        return found.told.areKeptBy(columnAtEnd(nine / 9), columnAtEnd(nine / 3), columnAtEnd(nine));
    }

    public int same(int cell) {
        Cell found = find(cell);
        if (found == null) {
            return NONE;
        }
        for (int i = 0; i < cell; i++) {
            Cell earlier = find(i);
            if (earlier != null && earlier.low.order(found.low) == 0) {
                return i;
            }
        }
        return cell;
    }

    public int multiples(int cell, int n) {
        Cell found = find(cell);
        if (found == null || !isMultiplier(n)) {
            return NONE;
        }
        table.fill(cell, found.low, n);
        return table.size();
    }

    public long multiple(int cell, int n, int k, int what) {
        Cell found = find(cell);
        if (found == null || !isMultiplier(n)) {
            return 0;
        }
        table.fill(cell, found.low, n);
        return table.at(k, what);
    }

    public int common(int cell, int n, int other, int m) {
        Cell found = find(cell);
        Cell second = find(other);
        if (found == null || second == null || !isMultiplier(n) || !isMultiplier(m)) {
            return NONE;
        }
        table.fill(cell, found.low, n);
        otherTable.fill(other, second.low, m);
        return table.countShared(otherTable);
    }

    public long step(int cell, int x, int y, int z) {
        Cell found = find(cell);
        if (found == null || !isRouteNumber(x) || !isRouteNumber(y) || !isRouteNumber(z)) {
            return 0;
        }
        return found.told.product(x, y, z, x, y, z);
    }

    public int shorter(int cell, long r) {
        Cell found = find(cell);
        if (found == null) {
            return NONE;
        }
        int within = 0;
        for (int x = -SHORT_REACH; x <= SHORT_REACH; x++) {
            for (int y = -SHORT_REACH; y <= SHORT_REACH; y++) {
                for (int z = -SHORT_REACH; z <= SHORT_REACH; z++) {
                    boolean moves = x != 0 || y != 0 || z != 0;
                    if (moves && found.told.product(x, y, z, x, y, z) <= r) {
                        within++;
                    }
                }
            }
        }
        return within;
    }

    private Cell find(int number) {
        if (number < 0 || number >= count || number >= cells.length) {
            return null;
        }
        return cells[number];
    }

    private static boolean isSquare(int value) {
        return value >= 1 && value <= HIGHEST_PRODUCT;
    }

    private static boolean isMixed(int value) {
        return value >= -HIGHEST_PRODUCT && value <= HIGHEST_PRODUCT;
    }

    private static boolean isMultiplier(int n) {
        return n >= 1 && n <= HIGHEST_MULTIPLE;
    }

    private static boolean isRouteNumber(int value) {
        return value >= -FARTHEST && value <= FARTHEST;
    }

    /** Every third digit from the last one on, three in all: a column, its top number the highest digit. */
    private static int columnAtEnd(int digits) {
        return digits / 729 % 3 * 9 + digits / 27 % 3 * 3 + digits % 3;
    }

    /** A cell as it was told, and what reducing it has shown. */
    private static final class Cell {
        final Products told;
        final Products low;
        final int symmetry;
        final int shears;

        Cell(Products told, Products low, int symmetry, int shears) {
            this.told = told;
            this.low = low;
            this.symmetry = symmetry;
            this.shears = shears;
        }
    }

    /** The six numbers A to F. */
    private static final class Products {
        private final long a;
        private final long b;
        private final long c;
        private final long d;
        private final long e;
        private final long f;

        Products(long a, long b, long c, long d, long e, long f) {
            this.a = a;
            this.b = b;
            this.c = c;
            this.d = d;
            this.e = e;
            this.f = f;
        }

        long at(int what) {
            switch (what) {
                case 0:
                    return a;
                case 1:
                    return b;
                case 2:
                    return c;
                case 3:
                    return d;
                case 4:
                    return e;
                case 5:
                    return f;
                default:
                    return 0;
            }
        }

        boolean spanASpace() {
            return a * b - f * f > 0 && determinant() > 0;
        }

        long determinant() {
            return a * (b * c - d * d) - f * (f * c - d * e) + e * (f * d - b * e);
        }

        /** The product of two sums of edges, told by their numbers. */
        long product(long x, long y, long z, long x2, long y2, long z2) {
            return a * x * x2 + b * y * y2 + c * z * z2
                    + d * (y * z2 + z * y2) + e * (x * z2 + z * x2) + f * (x * y2 + y * x2);
        }

        /** The product of two columns 0 .. 26, whose digits of base 3 are their numbers plus 1. */
        private long columnProduct(int left, int right) {
            return product(left / 9 % 3 - 1, left / 3 % 3 - 1, left % 3 - 1,
                    right / 9 % 3 - 1, right / 3 % 3 - 1, right % 3 - 1);
        }

        boolean areKeptBy(int first, int second, int third) {
            return columnProduct(first, first) == a && fitsSecond(first, second) && fitsThird(first, second, third);
        }

        private boolean fitsSecond(int first, int second) {
            return columnProduct(second, second) == b && columnProduct(first, second) == f;
        }

        private boolean fitsThird(int first, int second, int third) {
            return columnProduct(third, third) == c && columnProduct(first, third) == e
                    && columnProduct(second, third) == d;
        }

        /** Goes column by column, since few first columns fit and so most matrices need no look. */
        int countKeepers() {
            int keepers = 0;
            for (int first = 0; first < COLUMNS; first++) {
                if (columnProduct(first, first) != a) {
                    continue;
                }
                for (int second = 0; second < COLUMNS; second++) {
                    if (fitsSecond(first, second)) {
                        keepers += countThirds(first, second);
                    }
                }
            }
            return keepers;
        }

        private int countThirds(int first, int second) {
            int thirds = 0;
            for (int third = 0; third < COLUMNS; third++) {
                if (fitsThird(first, second, third)) {
                    thirds++;
                }
            }
            return thirds;
        }

        int order(Products other) {
            for (int what = 0; what < 6; what++) {
                int side = Long.compare(at(what), other.at(what));
                if (side != 0) {
                    return side;
                }
            }
            return 0;
        }
    }

    /** Reduces six numbers; used again for each, so that reducing makes no objects. */
    private static final class Reducer {
        /** Far above the some hundreds of turns that the longest way takes. */
        private static final int MOST_TURNS = 1_000_000;

        private long a;
        private long b;
        private long c;
        private long x;
        private long y;
        private long z;
        private int shears;

        Reducer() {
            shears = 0;
        }

        void reduce(Products six) {
            setSquares(six.a, six.b, six.c);
            setMixed(six.d, six.e, six.f);
            run();
        }

        void setSquares(long newA, long newB, long newC) {
            a = newA;
            b = newB;
            c = newC;
        }

        void setMixed(long newD, long newE, long newF) {
            x = 2 * newD;
            y = 2 * newE;
            z = 2 * newF;
        }

        void run() {
            shears = 0;
            for (int turn = 0; turn < MOST_TURNS; turn++) {
                orderFirstTwo();
                if (orderLastTwo()) {
                    continue;
                }
                alignSigns();
                if (!shearByX() && !shearByY() && !shearByZ() && !shearBySum()) {
                    return;
                }
                shears++;
            }
        }

        Products result() {
            return new Products(a, b, c, x / 2, y / 2, z / 2);
        }

        int shears() {
            return shears;
        }

        long at(int what) {
            switch (what) {
                case 0:
                    return a;
                case 1:
                    return b;
                case 2:
                    return c;
                case 3:
                    return x / 2;
                case 4:
                    return y / 2;
                case 5:
                    return z / 2;
                default:
                    return 0;
            }
        }

        /** Step (1). */
        private void orderFirstTwo() {
            if (a > b || a == b && Math.abs(x) > Math.abs(y)) {
                long wasA = a;
                a = b;
                b = wasA;
                long wasX = x;
                x = y;
                y = wasX;
            }
        }

        /** Step (2). */
        private boolean orderLastTwo() {
            if (b > c || b == c && Math.abs(y) > Math.abs(z)) {
                long wasB = b;
                b = c;
                c = wasB;
                long wasY = y;
                y = z;
                z = wasY;
                return true;
            }
            return false;
        }

        /** Steps (3) and (4); by the signs alone, since X Y Z of a multiple may be too large for a long. */
        private void alignSigns() {
            int sides = Long.compare(x, 0) * Long.compare(y, 0) * Long.compare(z, 0);
            int sign = sides > 0 ? 1 : -1;
            x = sign * Math.abs(x);
            y = sign * Math.abs(y);
            z = sign * Math.abs(z);
        }

        /** Step (5). */
        private boolean shearByX() {
            if (Math.abs(x) > b || x == b && 2 * y < z || x == -b && z < 0) {
                int s = x > 0 ? 1 : -1;
                c = b + c - s * x;
                y = y - s * z;
                x = x - 2 * s * b;
                return true;
            }
            return false;
        }

        /** Step (6). */
        private boolean shearByY() {
            if (Math.abs(y) > a || y == a && 2 * x < z || y == -a && z < 0) {
                int s = y > 0 ? 1 : -1;
                c = a + c - s * y;
                x = x - s * z;
                y = y - 2 * s * a;
                return true;
            }
            return false;
        }

        /** Step (7). */
        private boolean shearByZ() {
            if (Math.abs(z) > a || z == a && 2 * x < y || z == -a && y < 0) {
                int s = z > 0 ? 1 : -1;
                b = a + b - s * z;
                x = x - s * y;
                z = z - 2 * s * a;
                return true;
            }
            return false;
        }

        /** Step (8). */
        private boolean shearBySum() {
            long sum = x + y + z + a + b;
            if (sum < 0 || sum == 0 && 2 * (a + y) + z > 0) {
                c = c + sum;
                x = 2 * b + x + z;
                y = 2 * a + y + z;
                return true;
            }
            return false;
        }
    }

    /** The different multiples of one cell by one n, lowest first; used again for the next ones. */
    private static final class MultipleTable {
        /** As many edges p .. u as there are by 12, the most of all n. */
        private static final int MOST_ROWS = 455;
        private static final int WAYS = 6;
        private static final int WIDTH = 7;

        private final Reducer reducer;
        private final long[] rows;
        private int size;
        private int filledCell;
        private int filledN;

        MultipleTable(Reducer reducer) {
            this.reducer = reducer;
            rows = new long[MOST_ROWS * WIDTH];
            size = 0;
            filledCell = NONE;
            filledN = 0;
        }

        int size() {
            return size;
        }

        long at(int row, int what) {
            if (row < 0 || row >= size || row >= MOST_ROWS || what < 0 || what >= WIDTH) {
                return 0;
            }
            return rows[row * WIDTH + what];
        }

        /**
         * Takes the cell's reduced six: their edges have the same multiples as
         * the told ones, each as often, and need far fewer turns to reduce.
         * What was filled last stays true, since a cell never changes.
         */
        void fill(int cell, Products six, int n) {
            if (filledCell == cell && filledN == n) {
                return;
            }
            filledCell = cell;
            filledN = n;
            size = 0;
            for (int p = 1; p <= n; p++) {
                for (int r = 1; p * r <= n; r++) {
                    if (n % (p * r) == 0) {
                        addAll(six, p, r, n / (p * r));
                    }
                }
            }
        }

        private void addAll(Products six, int p, int r, int u) {
            for (int q = 0; q < p; q++) {
                for (int s = 0; s < p; s++) {
                    for (int t = 0; t < r; t++) {
                        reduceEdges(six, p, q, r, s, t, u);
                        countReduced();
                    }
                }
            }
        }

        private void reduceEdges(Products six, int p, int q, int r, int s, int t, int u) {
            reducer.setSquares(six.product(p, 0, 0, p, 0, 0),
                    six.product(q, r, 0, q, r, 0),
                    six.product(s, t, u, s, t, u));
            reducer.setMixed(six.product(q, r, 0, s, t, u),
                    six.product(p, 0, 0, s, t, u),
                    six.product(p, 0, 0, q, r, 0));
            reducer.run();
        }

        private void countReduced() {
            int row = firstNotBelow();
            if (row < 0 || row >= MOST_ROWS) {
                return;
            }
            if (row >= size || orderToReduced(row) != 0) {
                if (size >= MOST_ROWS) {
                    return;
                }
                insert(row);
            }
            rows[row * WIDTH + WAYS]++;
        }

        private int firstNotBelow() {
            int from = 0;
            int span = size;
            while (span > 0) {
                int half = span / 2;
                if (orderToReduced(from + half) < 0) {
                    from += half + 1;
                    span -= half + 1;
                } else {
                    span = half;
                }
            }
            return from;
        }

        private int orderToReduced(int row) {
            for (int what = 0; what < WAYS; what++) {
                int side = Long.compare(at(row, what), reducer.at(what));
                if (side != 0) {
                    return side;
                }
            }
            return 0;
        }

        private void insert(int row) {
            int from = row * WIDTH;
            System.arraycopy(rows, from, rows, from + WIDTH, (size - row) * WIDTH);
            for (int what = 0; what < WAYS; what++) {
                rows[from + what] = reducer.at(what);
            }
            rows[from + WAYS] = 0;
            size++;
        }

        int countShared(MultipleTable other) {
            int shared = 0;
            int theirs = 0;
            for (int mine = 0; mine < size; mine++) {
                while (theirs < other.size && orderToOther(mine, other, theirs) > 0) {
                    theirs++;
                }
                if (theirs < other.size && orderToOther(mine, other, theirs) == 0) {
                    shared++;
                }
            }
            return shared;
        }

        private int orderToOther(int row, MultipleTable other, int otherRow) {
            for (int what = 0; what < WAYS; what++) {
                int side = Long.compare(at(row, what), other.at(otherRow, what));
                if (side != 0) {
                    return side;
                }
            }
            return 0;
        }
    }
}

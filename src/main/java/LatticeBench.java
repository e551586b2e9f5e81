import java.util.Arrays;

/**
 * A bench for whole steps: tables of whole numbers, the lattices that their rows reach, and what
 * can be told of these lattices exactly.
 */
public final class LatticeBench {
    public static final int NONE = -1;

    private static final int TABLES = 12;
    private static final int SIDE = 5;
    private static final int ANSWER_ROWS = 2 * SIDE;
    private static final int BOUND = 1000;
    private static final int NO_NUMBER = -10000;
    private static final int NOT_SO = -2;

    private static final int KIND_DIAGONAL = 4;
    private static final int KIND_STAIR = 3;
    private static final int KIND_TURNING = 2;
    private static final int KIND_SQUARE = 1;
    private static final int KIND_OTHER = 0;

    /** Far above the steps that any division chain here can need. */
    private static final int MANY = 1000000;

    /** Limbs of 31 bits keep every product and every division of two of them inside a long. */
    private static final int LIMB_BITS = 31;
    private static final long LIMB_MASK = 0x7fffffffL;
    /** At least three, so that every long fits without asking for room. */
    private static final int FIRST_LIMBS = 4;

    private final Table[] tables = new Table[TABLES];
    private final Desk desk = new Desk();
    private final Grid told = new Grid(ANSWER_ROWS, SIDE);
    private boolean anythingTold = false;

    // A stair of width w needs at most w rows, and one more for the row that comes next.
    private final Grid wide = new Grid(2 * SIDE + 1, 2 * SIDE);
    private final Grid second = new Grid(SIDE + 1, SIDE);
    private final Grid third = new Grid(SIDE + 1, SIDE);
    private final Row asked = new Row(2 * SIDE);
    private final Row factors = new Row(SIDE);
    private final int[] made = new int[SIDE * SIDE];
    private final long[] minors = new long[1 << SIDE];

    public LatticeBench() {
        for (int t = 0; t < TABLES; t++) {
            tables[t] = new Table();
        }
    }

    // ---- the tables

    public boolean table(int t, int rows, int columns) {
        if (!isNumberOfTable(t) || rows < 1 || rows > SIDE || columns < 1 || columns > SIDE) {
            return false;
        }
        tables[t].begin(rows, columns);
        return true;
    }

    public boolean leaf(int t, int i, int a, int b, int c, int d, int e) {
        Table table = find(t);
        if (table == null || !table.hasRow(i)) {
            return false;
        }
        made[0] = a;
        made[1] = b;
        made[2] = c;
        made[3] = d;
        made[4] = e;
        if (!madeCanBe(table.columns)) {
            return false;
        }
        for (int j = 0; j < table.columns; j++) {
            table.numbers[i * SIDE + j] = made[j];
        }
        table.there[i] = true;
        return true;
    }

    public boolean tear(int t, int i) {
        Table table = find(t);
        if (table == null || !table.hasRow(i)) {
            return false;
        }
        boolean was = table.there[i];
        table.drop(i);
        return was;
    }

    public int get(int t, int i, int j) {
        Table table = find(t);
        if (table == null || !table.hasRow(i) || j < 0 || j >= table.columns) {
            return NO_NUMBER;
        }
        return table.numbers[i * SIDE + j];
    }

    public int about(int t, int what) {
        Table table = find(t);
        if (table == null) {
            return NONE;
        }
        switch (what) {
            case 0:
                return table.rows;
            case 1:
                return table.columns;
            case 2:
                return table.leavesThere();
            case 3:
                wide.reachOf(table);
                return kindOf(table, wide);
            case 4:
                wide.reachOf(table);
                return wide.height;
            default:
                return NONE;
        }
    }

    // ---- what is told

    public int answer(int what) {
        if (!anythingTold) {
            return NONE;
        }
        if (what == 0) {
            return told.height;
        }
        return what == 1 ? told.width : NONE;
    }

    public int sign(int i, int j) {
        Whole number = toldAt(i, j);
        return number == null ? NOT_SO : number.sign;
    }

    public int bits(int i, int j, int k) {
        Whole number = toldAt(i, j);
        return number == null || k < 0 ? 0 : number.word(k);
    }

    public int length(int i, int j) {
        Whole number = toldAt(i, j);
        return number == null ? NONE : number.bitLength();
    }

    // ---- tables made of tables

    public boolean add(int a, int b, boolean less, int to) {
        Table first = find(a);
        Table other = find(b);
        if (first == null || other == null || !isNumberOfTable(to)
                || first.rows != other.rows || first.columns != other.columns) {
            return false;
        }
        int at = 0;
        for (int i = 0; i < first.rows; i++) {
            for (int j = 0; j < first.columns; j++) {
                int number = other.numbers[i * SIDE + j];
                made[at] = first.numbers[i * SIDE + j] + (less ? -number : number);
                at++;
            }
        }
        return keepMade(to, first.rows, first.columns);
    }

    public boolean times(int a, int b, int to) {
        Table first = find(a);
        Table other = find(b);
        if (first == null || other == null || !isNumberOfTable(to) || first.columns != other.rows) {
            return false;
        }
        int at = 0;
        for (int i = 0; i < first.rows; i++) {
            for (int j = 0; j < other.columns; j++) {
                int sum = 0;
                for (int k = 0; k < other.rows; k++) {
                    sum += first.numbers[i * SIDE + k] * other.numbers[k * SIDE + j];
                }
                made[at] = sum;
                at++;
            }
        }
        return keepMade(to, first.rows, other.columns);
    }

    public boolean turn(int a, int to) {
        Table table = find(a);
        if (table == null || !isNumberOfTable(to)) {
            return false;
        }
        int at = 0;
        for (int j = 0; j < table.columns; j++) {
            for (int i = 0; i < table.rows; i++) {
                made[at] = table.numbers[i * SIDE + j];
                at++;
            }
        }
        return keepMade(to, table.columns, table.rows);
    }

    public boolean over(int a, int b) {
        Table first = find(a);
        Table other = find(b);
        if (!areAlike(first, other)) {
            return false;
        }
        for (int i = 0; i < first.rows; i++) {
            told.rows[i].read(first, i, 1);
        }
        for (int i = 0; i < other.rows; i++) {
            told.rows[first.rows + i].read(other, i, 1);
        }
        closeAnswer(first.rows + other.rows, first.columns);
        return true;
    }

    // ---- forms

    public int worth(int t) {
        Table table = find(t);
        if (table == null || table.rows != table.columns) {
            return NOT_SO;
        }
        told.rows[0].cells[0].put(minorWithout(table, NONE, NONE));
        closeAnswer(1, 1);
        return told.rows[0].cells[0].sign;
    }

    public int stair(int t) {
        Table table = find(t);
        if (table == null) {
            return NONE;
        }
        wide.reachOf(table);
        return tellRows(wide, 0, 0);
    }

    public int sizes(int t) {
        Table table = find(t);
        if (table == null) {
            return NONE;
        }
        second.reachOf(table);
        return tellSizes(diagonalOf(second, third), true);
    }

    public int kernel(int t) {
        Table table = find(t);
        if (table == null) {
            return NONE;
        }
        wide.reachWithMultiples(table);
        return tellRows(wide, wide.rowsLeadingBefore(table.columns), table.columns);
    }

    public boolean back(int t) {
        Table table = find(t);
        if (table == null || !isTurning(table)) {
            return false;
        }
        // The rows of a turning table reach everything: the stair is the unit table, and the
        // multiples that make it, beside it, are the way back.
        wide.reachWithMultiples(table);
        tellRows(wide, 0, table.columns);
        return true;
    }

    // ---- equations

    public int solve(int t, int u, int i) {
        Table table = find(t);
        Table askers = find(u);
        if (!areAlike(table, askers) || !askers.hasRow(i)) {
            return NONE;
        }
        int columns = table.columns;
        wide.reachWithMultiples(table);
        // From (-b, 0) the rows (xT, x) lead to (0, x) just if xT = b.
        asked.read(askers, i, -1);
        for (int j = 0; j < table.rows; j++) {
            asked.cells[columns + j].put(0);
        }
        int leading = wide.rowsLeadingBefore(columns);
        wide.takeOff(asked, 0, leading, factors);
        if (asked.firstFilled(columns) < columns) {
            return 0;
        }
        wide.takeOff(asked, leading, wide.height, factors);
        for (int j = 0; j < table.rows; j++) {
            told.rows[0].cells[j].copy(asked.cells[columns + j]);
        }
        closeAnswer(1, table.rows);
        return 1;
    }

    public int reach(int t, int u, int i) {
        Table table = find(t);
        Table askers = find(u);
        if (!areAlike(table, askers) || !askers.hasRow(i)) {
            return NONE;
        }
        wide.reachOf(table);
        asked.read(askers, i, 1);
        if (!wide.takeOff(asked, 0, wide.height, factors)) {
            return 0;
        }
        for (int k = 0; k < wide.height; k++) {
            told.rows[0].cells[k].copy(factors.cells[k]);
        }
        closeAnswer(wide.height > 0 ? 1 : 0, wide.height);
        return 1;
    }

    public int order(int t, int u, int i) {
        Table table = find(t);
        Table askers = find(u);
        if (!areAlike(table, askers) || !askers.hasRow(i)) {
            return NONE;
        }
        wide.reachOf(table);
        asked.read(askers, i, 1);
        Whole multiple = factors.cells[0];
        multiple.put(1);
        for (int k = 0; k < wide.height; k++) {
            stretchTo(wide, k, multiple);
        }
        if (asked.firstFilled(wide.width) < wide.width) {
            return 0;
        }
        told.rows[0].cells[0].copy(multiple);
        closeAnswer(1, 1);
        return 1;
    }

    // ---- lattices

    public int join(int a, int b) {
        Table first = find(a);
        Table other = find(b);
        if (!areAlike(first, other)) {
            return NONE;
        }
        wide.reachOf(first);
        for (int i = 0; i < other.rows; i++) {
            wide.rows[wide.height].read(other, i, 1);
            wide.takeIn();
        }
        return tellRows(wide, 0, 0);
    }

    public int both(int a, int b) {
        Table first = find(a);
        Table other = find(b);
        if (!areAlike(first, other)) {
            return NONE;
        }
        int columns = first.columns;
        // Rows (v + w, v) with v of the one and w of the other: where v + w is 0, v is in both.
        wide.begin(2 * columns);
        for (int i = 0; i < first.rows; i++) {
            Row next = wide.rows[wide.height];
            next.read(first, i, 1);
            for (int j = 0; j < columns; j++) {
                next.cells[columns + j].copy(next.cells[j]);
            }
            wide.takeIn();
        }
        for (int i = 0; i < other.rows; i++) {
            Row next = wide.rows[wide.height];
            next.read(other, i, 1);
            for (int j = 0; j < columns; j++) {
                next.cells[columns + j].put(0);
            }
            wide.takeIn();
        }
        return tellRows(wide, wide.rowsLeadingBefore(columns), columns);
    }

    public int within(int a, int b) {
        Table first = find(a);
        Table other = find(b);
        if (!areAlike(first, other)) {
            return NONE;
        }
        second.reachOf(other);
        return reachesAllOf(second, first) ? 1 : 0;
    }

    public int index(int a, int b) {
        Table first = find(a);
        Table other = find(b);
        if (!areAlike(first, other)) {
            return NONE;
        }
        wide.reachOf(first);
        second.reachOf(other);
        if (!reachesAllOf(second, first)) {
            return 0;
        }
        if (wide.height < second.height) {
            return NOT_SO;
        }
        Whole share = told.rows[0].cells[0];
        wide.multiplyLeads(factors.cells[0]);
        second.multiplyLeads(factors.cells[1]);
        desk.divide(factors.cells[0], factors.cells[1], share);
        closeAnswer(1, 1);
        return 1;
    }

    public int quotient(int a, int b) {
        Table first = find(a);
        Table other = find(b);
        if (!areAlike(first, other)) {
            return NONE;
        }
        wide.reachOf(first);
        second.reachOf(other);
        int free = second.height - wide.height;
        third.begin(second.height);
        for (int k = 0; k < wide.height; k++) {
            asked.copyOf(wide.rows[k], wide.width);
            if (!second.takeOff(asked, 0, second.height, third.rows[third.height])) {
                return NOT_SO;
            }
            third.takeIn();
        }
        return 10 * free + tellSizes(diagonalOf(third, second), false);
    }

    public int dual(int t) {
        Table table = find(t);
        if (table == null) {
            return NONE;
        }
        if (table.rows != table.columns) {
            return 0;
        }
        int side = table.rows;
        long worth = minorWithout(table, NONE, NONE);
        if (worth == 0) {
            return 0;
        }
        // The dual's rows are the cofactors over the worth; what all cofactors share is cancelled.
        long shared = sharedByCofactors(table);
        wide.begin(side);
        for (int i = 0; i < side; i++) {
            Row next = wide.rows[wide.height];
            for (int j = 0; j < side; j++) {
                long minor = minorWithout(table, i, j);
                long part = shared > 0 ? minor / shared : 0;
                next.cells[j].put((i + j) % 2 == 0 ? part : -part);
            }
            wide.takeIn();
        }
        tellDual(shared > 0 ? Math.abs(worth) / shared : 0);
        return side + 1;
    }

    public int count(int what) {
        int found = 0;
        int leaves = 0;
        for (int t = 0; t < TABLES; t++) {
            if (tables[t].rows > 0) {
                found++;
                leaves += tables[t].leavesThere();
            }
        }
        if (what == 0) {
            return found;
        }
        return what == 1 ? leaves : NONE;
    }

    // ---- finding

    private static boolean isNumberOfTable(int t) {
        return t >= 0 && t < TABLES;
    }

    /** The table, or null if there is none of this number. */
    private Table find(int t) {
        return isNumberOfTable(t) && tables[t].rows > 0 ? tables[t] : null;
    }

    private static boolean areAlike(Table first, Table other) {
        return first != null && other != null && first.columns == other.columns;
    }

    private Whole toldAt(int i, int j) {
        if (i < 0 || i >= told.height || j < 0 || j >= told.width) {
            return null;
        }
        return told.rows[i].cells[j];
    }

    // ---- making tables

    private boolean madeCanBe(int length) {
        for (int k = 0; k < length; k++) {
            if (made[k] < -BOUND || made[k] > BOUND) {
                return false;
            }
        }
        return true;
    }

    /** The numbers stand in `made` first, since the table to be written may be one of those read. */
    private boolean keepMade(int to, int rows, int columns) {
        if (!madeCanBe(rows * columns)) {
            return false;
        }
        Table table = tables[to];
        table.begin(rows, columns);
        for (int i = 0; i < rows; i++) {
            for (int j = 0; j < columns; j++) {
                table.numbers[i * SIDE + j] = made[i * columns + j];
            }
            table.there[i] = true;
        }
        return true;
    }

    // ---- telling

    private void closeAnswer(int rows, int columns) {
        told.height = rows;
        told.width = rows > 0 ? columns : 0;
        anythingTold = true;
    }

    /** Tells the rows of a grid from one on, and of these the columns from one on. */
    private int tellRows(Grid grid, int firstRow, int firstColumn) {
        int rows = grid.height - firstRow;
        int columns = grid.width - firstColumn;
        for (int i = 0; i < rows; i++) {
            for (int j = 0; j < columns; j++) {
                told.rows[i].cells[j].copy(grid.rows[firstRow + i].cells[firstColumn + j]);
            }
        }
        closeAnswer(rows, columns);
        return rows;
    }

    /** Tells the sizes that a diagonal grid stands for: all, or those above 1. */
    private int tellSizes(Grid diagonal, boolean ones) {
        for (int i = 0; i < diagonal.height; i++) {
            for (int k = i + 1; k < diagonal.height; k++) {
                desk.letDivide(diagonal.rows[i].cells[i], diagonal.rows[k].cells[k]);
            }
        }
        int found = 0;
        for (int i = 0; i < diagonal.height; i++) {
            Whole size = diagonal.rows[i].cells[i];
            if (ones || !size.is(1)) {
                told.rows[0].cells[found].copy(size);
                found++;
            }
        }
        closeAnswer(found > 0 ? 1 : 0, found);
        return found;
    }

    private void tellDual(long least) {
        for (int j = 0; j < wide.width; j++) {
            told.rows[0].cells[j].put(j == 0 ? least : 0);
        }
        for (int i = 0; i < wide.height; i++) {
            told.rows[i + 1].copyOf(wide.rows[i], wide.width);
        }
        closeAnswer(wide.height + 1, wide.width);
    }

    // ---- what tables are

    private int kindOf(Table table, Grid stair) {
        if (stair.isWrittenIn(table)) {
            return stair.isDiagonal() && table.hasChain(stair.height) ? KIND_DIAGONAL : KIND_STAIR;
        }
        if (table.rows != table.columns) {
            return KIND_OTHER;
        }
        return isTurning(table) ? KIND_TURNING : KIND_SQUARE;
    }

    private boolean isTurning(Table table) {
        return table.rows == table.columns && Math.abs(minorWithout(table, NONE, NONE)) == 1;
    }

    /**
     * The worth of a square table without a row and a column (NONE: with all). It is at most
     * 120 times 1000 to the 5th, so a long holds it and all that it is made of.
     */
    private long minorWithout(Table table, int row, int column) {
        int side = table.columns;
        int out = column < 0 ? 0 : 1 << column;
        minors[0] = 1;
        for (int set = 1; set < 1 << side; set++) {
            if ((set & out) != 0) {
                continue;
            }
            // The set's columns meet as many of the first rows: worked out along the last of them.
            int last = Integer.bitCount(set) - 1;
            int i = row >= 0 && last >= row ? last + 1 : last;
            long sum = 0;
            for (int j = 0; j < side && i < side; j++) {
                if ((set & 1 << j) != 0) {
                    long part = table.numbers[i * SIDE + j] * minors[set ^ 1 << j];
                    sum += Integer.bitCount(set >> j + 1) % 2 == 0 ? part : -part;
                }
            }
            minors[set] = sum;
        }
        return minors[((1 << side) - 1) & ~out];
    }

    private long sharedByCofactors(Table table) {
        long shared = 0;
        for (int i = 0; i < table.rows; i++) {
            for (int j = 0; j < table.columns; j++) {
                long rest = Math.abs(minorWithout(table, i, j));
                for (int step = 0; step < MANY && rest != 0; step++) {
                    long next = shared % rest;
                    shared = rest;
                    rest = next;
                }
            }
        }
        return shared;
    }

    // ---- what lattices are

    private boolean reachesAllOf(Grid stair, Table table) {
        for (int i = 0; i < table.rows; i++) {
            asked.read(table, i, 1);
            if (!stair.takeOff(asked, 0, stair.height, factors)) {
                return false;
            }
        }
        return true;
    }

    /** Multiplies the asked row, and the multiple with it, just so far that row k can be taken off. */
    private void stretchTo(Grid stair, int k, Whole multiple) {
        int lead = stair.leads[k];
        Whole need = factors.cells[1];
        Whole stretched = factors.cells[2];
        desk.findShared(asked.cells[lead], stair.rows[k].cells[lead], stretched);
        desk.divide(stair.rows[k].cells[lead], stretched, need);
        if (!need.is(1)) {
            stretched.product(multiple, need);
            multiple.copy(stretched);
            for (int j = lead; j < stair.width; j++) {
                stretched.product(asked.cells[j], need);
                asked.cells[j].copy(stretched);
            }
        }
        desk.divide(asked.cells[lead], stair.rows[k].cells[lead], need);
        asked.lessMultiple(need, stair.rows[k], lead, stair.width, stretched);
    }

    /**
     * Brings a stair to a diagonal one by taking the stair of what it is with rows and columns
     * changed, again and again: each time the first lead that has not come to rest becomes a
     * true divisor of itself, or its row and column become 0 beside it. Tells which of the two
     * grids has it in the end.
     */
    private static Grid diagonalOf(Grid stair, Grid spare) {
        Grid from = stair;
        Grid to = spare;
        for (int round = 0; round < MANY && !from.isDiagonal(); round++) {
            to.begin(from.height);
            for (int j = 0; j < from.width; j++) {
                Row next = to.rows[to.height];
                for (int i = 0; i < from.height; i++) {
                    next.cells[i].copy(from.rows[i].cells[j]);
                }
                to.takeIn();
            }
            Grid done = from;
            from = to;
            to = done;
        }
        return from;
    }

    /** A table of the document; without rows it is none. Missing leaves hold 0s. */
    private static final class Table {
        private int rows = 0;
        private int columns = 0;
        private final int[] numbers = new int[SIDE * SIDE];
        private final boolean[] there = new boolean[SIDE];

        void begin(int newRows, int newColumns) {
            rows = newRows;
            columns = newColumns;
            for (int i = 0; i < SIDE; i++) {
                drop(i);
            }
        }

        void drop(int i) {
            there[i] = false;
            for (int j = 0; j < SIDE; j++) {
                numbers[i * SIDE + j] = 0;
            }
        }

        boolean hasRow(int i) {
            return i >= 0 && i < rows;
        }

        int leavesThere() {
            int found = 0;
            for (int i = 0; i < rows; i++) {
                if (there[i]) {
                    found++;
                }
            }
            return found;
        }

        /** Whether each of the first numbers from corner to corner divides the next one. */
        boolean hasChain(int steps) {
            for (int k = 0; k + 1 < steps; k++) {
                int number = numbers[k * SIDE + k];
                if (number == 0 || numbers[(k + 1) * SIDE + k + 1] % number != 0) {
                    return false;
                }
            }
            return true;
        }
    }

    /** A whole number of any length, changed in place: its sign, and limbs with the lowest first. */
    private static final class Whole {
        private int sign = 0;
        private int size = 0;
        private int[] limbs = new int[FIRST_LIMBS];

        void makeRoom(int length) {
            if (limbs.length < length) {
                // More than asked for, so that a number that grows slowly seldom asks again.
                limbs = Arrays.copyOf(limbs, length + FIRST_LIMBS);
            }
        }

        /** Leaves out the limbs of 0 at the top. */
        void trim() {
            while (size > 0 && limbs[size - 1] == 0) {
                size--;
            }
            if (size == 0) {
                sign = 0;
            }
        }

        void put(long value) {
            long rest = value < 0 ? -value : value;
            sign = Long.signum(value);
            size = 0;
            for (int k = 0; k < FIRST_LIMBS && rest != 0; k++) {
                limbs[k] = (int) (rest & LIMB_MASK);
                rest >>>= LIMB_BITS;
                size = k + 1;
            }
        }

        void copy(Whole other) {
            makeRoom(other.size);
            for (int k = 0; k < other.size; k++) {
                limbs[k] = other.limbs[k];
            }
            size = other.size;
            sign = other.sign;
        }

        boolean isShort() {
            return size <= 2;
        }

        /** A short number without its sign. */
        long shortValue() {
            long high = size > 1 ? limbs[1] : 0;
            long low = size > 0 ? limbs[0] : 0;
            return (high << LIMB_BITS) + low;
        }

        boolean is(long value) {
            return isShort() && sign * shortValue() == value;
        }

        int limbAt(long k) {
            return k < size ? limbs[(int) k] : 0;
        }

        /** Bits 32 k to 32 k + 31 without sign; two limbs always hold all of them. */
        int word(int k) {
            long first = 32L * k;
            long low = limbAt(first / LIMB_BITS);
            long high = limbAt(first / LIMB_BITS + 1);
            return (int) (((high << LIMB_BITS) + low) >>> (int) (first % LIMB_BITS));
        }

        int bitLength() {
            if (size == 0) {
                return 0;
            }
            return size * LIMB_BITS - (Integer.numberOfLeadingZeros(limbs[size - 1]) - 1);
        }

        /** Which is greater without signs: 1 this, -1 the other, 0 neither. */
        int compareSize(Whole other) {
            if (size != other.size) {
                return size > other.size ? 1 : -1;
            }
            for (int k = size - 1; k >= 0; k--) {
                if (limbs[k] != other.limbs[k]) {
                    return limbs[k] > other.limbs[k] ? 1 : -1;
                }
            }
            return 0;
        }

        /** Adds the other number as often as the factor says, which is 1 or -1. */
        void plus(Whole other, int factor) {
            int theirs = other.sign * factor;
            if (theirs == 0) {
                return;
            }
            boolean opposed = sign == -theirs;
            boolean smaller = opposed && compareSize(other) < 0;
            Whole main = smaller ? other : this;
            Whole side = smaller ? this : other;
            int length = Math.max(size, other.size) + 1;
            makeRoom(length);
            long carry = 0;
            for (int k = 0; k < length; k++) {
                long part = k < side.size ? side.limbs[k] : 0;
                carry += (k < main.size ? main.limbs[k] : 0) + (opposed ? -part : part);
                limbs[k] = (int) (carry & LIMB_MASK);
                carry >>= LIMB_BITS;
            }
            size = length;
            sign = sign == 0 || smaller ? theirs : sign;
            trim();
        }

        /** Becomes the product of two numbers, neither of which is this one. */
        void product(Whole a, Whole b) {
            int length = a.size + b.size;
            makeRoom(length);
            for (int k = 0; k < length; k++) {
                limbs[k] = 0;
            }
            for (int i = 0; i < a.size; i++) {
                long digit = a.limbs[i];
                long carry = 0;
                for (int k = 0; k < b.size; k++) {
                    carry += digit * b.limbs[k] + limbs[i + k];
                    limbs[i + k] = (int) (carry & LIMB_MASK);
                    carry >>= LIMB_BITS;
                }
                limbs[i + b.size] = (int) carry;
            }
            size = length;
            sign = a.sign * b.sign;
            trim();
        }

        /** Takes over the limbs of another number times 2 to the shift, so many of them. */
        void shifted(Whole other, int shift, int length) {
            long carry = 0;
            for (int k = 0; k < length; k++) {
                long limb = k < other.size ? other.limbs[k] : 0;
                carry += limb << shift;
                limbs[k] = (int) (carry & LIMB_MASK);
                carry >>= LIMB_BITS;
            }
        }
    }

    /** Divides, and keeps the numbers that are needed on the way, so that no call makes new ones. */
    private static final class Desk {
        private final Whole rest = new Whole();
        private final Whole divisor = new Whole();
        private final Whole one = new Whole();
        private final Whole greater = new Whole();
        private final Whole smaller = new Whole();
        private final Whole factor = new Whole();
        private final Whole product = new Whole();

        Desk() {
            one.put(1);
        }

        /**
         * The quotient of a by b that leaves a rest from 0 up to less than b without its sign;
         * 0 if b is 0.
         */
        void divide(Whole a, Whole b, Whole quotient) {
            int sign = a.sign * b.sign;
            boolean below = a.sign < 0;
            if (sign == 0) {
                quotient.put(0);
                return;
            }
            if (a.isShort() && b.isShort()) {
                long value = a.shortValue();
                long by = b.shortValue();
                long often = by > 0 ? value / by : 0;
                boolean exact = often * by == value;
                quotient.put(sign * (below && !exact ? often + 1 : often));
                return;
            }
            if (a.compareSize(b) < 0) {
                quotient.put(below ? sign : 0);
                return;
            }
            boolean exact = divideLong(a, b, quotient);
            quotient.sign = sign;
            if (below && !exact) {
                quotient.plus(one, sign);
            }
        }

        /** Long division without signs, b not 0 and a not below it: whether nothing is left. */
        private boolean divideLong(Whole a, Whole b, Whole quotient) {
            int length = b.size;
            int places = a.size - length + 1;
            // With the divisor's top bit set, the first guess at each digit is 2 too high at most.
            int shift = Integer.numberOfLeadingZeros(b.limbs[length - 1]) - 1;
            rest.makeRoom(a.size + 1);
            rest.shifted(a, shift, a.size + 1);
            divisor.makeRoom(length);
            divisor.shifted(b, shift, length);
            quotient.makeRoom(places);
            for (int place = places - 1; place >= 0; place--) {
                long guess = guessDigit(place + length, length);
                quotient.limbs[place] = takeDigit(place, length, guess);
            }
            quotient.size = places;
            quotient.trim();
            for (int k = 0; k < length; k++) {
                if (rest.limbs[k] != 0) {
                    return false;
                }
            }
            return true;
        }

        /** Takes the divisor off the rest as often as the guess says, and tells the true digit. */
        private int takeDigit(int place, int length, long guess) {
            int[] left = rest.limbs;
            int[] by = divisor.limbs;
            long carry = 0;
            long borrow = 0;
            for (int k = 0; k < length; k++) {
                carry += guess * by[k];
                borrow += left[place + k] - (carry & LIMB_MASK);
                left[place + k] = (int) (borrow & LIMB_MASK);
                borrow >>= LIMB_BITS;
                carry >>= LIMB_BITS;
            }
            // The limb on top becomes 0 in the end and is not read again: only its sign matters.
            if (borrow + left[place + length] - carry >= 0) {
                return (int) guess;
            }
            // The guess was 1 too high: the divisor is put back once.
            carry = 0;
            for (int k = 0; k < length; k++) {
                carry += (long) left[place + k] + by[k];
                left[place + k] = (int) (carry & LIMB_MASK);
                carry >>= LIMB_BITS;
            }
            return (int) (guess - 1);
        }

        /** A digit from the top limbs alone: right, or 1 too high. */
        private long guessDigit(int top, int length) {
            long first = divisor.limbs[length - 1];
            long next = length > 1 ? divisor.limbs[length - 2] : 0;
            long below = length > 1 ? rest.limbs[top - 2] : 0;
            long value = ((long) rest.limbs[top] << LIMB_BITS) + rest.limbs[top - 1];
            long digit = first > 0 ? value / first : 0;
            long over = value - digit * first;
            for (int mend = 0; mend < 2 && over <= LIMB_MASK; mend++) {
                if (digit > LIMB_MASK || digit * next > (over << LIMB_BITS) + below) {
                    digit--;
                    over += first;
                }
            }
            return digit;
        }

        /** The greatest common divisor of two numbers. */
        void findShared(Whole a, Whole b, Whole shared) {
            greater.copy(a);
            smaller.copy(b);
            Whole from = greater;
            Whole by = smaller;
            for (int step = 0; step < MANY && by.sign != 0; step++) {
                divide(from, by, factor);
                product.product(factor, by);
                from.plus(product, -1);
                Whole done = from;
                from = by;
                by = done;
            }
            shared.copy(from);
            shared.sign = shared.sign * shared.sign;
        }

        /** Two sizes above 0 become their greatest common divisor and their least common multiple. */
        void letDivide(Whole first, Whole next) {
            findShared(first, next, factor);
            if (factor.compareSize(first) == 0) {
                return;
            }
            greater.copy(factor);
            divide(first, greater, factor);
            product.product(factor, next);
            next.copy(product);
            first.copy(greater);
        }
    }

    /** A row of numbers of any length. */
    private static final class Row {
        private final Whole[] cells;

        Row(int width) {
            cells = new Whole[width];
            for (int j = 0; j < width; j++) {
                cells[j] = new Whole();
            }
        }

        /** Takes over row i of a table, multiplied. */
        void read(Table table, int i, int factor) {
            for (int j = 0; j < table.columns; j++) {
                cells[j].put(factor * table.numbers[i * SIDE + j]);
            }
        }

        void copyOf(Row other, int width) {
            for (int j = 0; j < width; j++) {
                cells[j].copy(other.cells[j]);
            }
        }

        /** The first column whose number is not 0; the width if there is none. */
        int firstFilled(int width) {
            for (int j = 0; j < width; j++) {
                if (cells[j].sign != 0) {
                    return j;
                }
            }
            return width;
        }

        void negate(int width) {
            for (int j = 0; j < width; j++) {
                cells[j].sign = -cells[j].sign;
            }
        }

        /** Takes off another row, so often, from a column on; the product is room to work in. */
        void lessMultiple(Whole factor, Row other, int from, int width, Whole product) {
            for (int j = from; j < width && factor.sign != 0; j++) {
                if (other.cells[j].sign != 0) {
                    product.product(factor, other.cells[j]);
                    cells[j].plus(product, -1);
                }
            }
        }
    }

    /** Rows that make a table, as a rule the stair of all rows that have been taken in. */
    private static final class Grid {
        private final Row[] rows;
        private final int[] leads;
        // Its own, so that no constructor hands out what another object holds.
        private final Desk desk = new Desk();
        private final Whole factor = new Whole();
        private final Whole product = new Whole();
        private int height = 0;
        private int width = 0;

        Grid(int mostRows, int mostColumns) {
            leads = new int[mostRows];
            rows = new Row[mostRows];
            for (int i = 0; i < mostRows; i++) {
                rows[i] = new Row(mostColumns);
            }
        }

        void begin(int newWidth) {
            height = 0;
            width = newWidth;
        }

        /** The stair of the lattice of a table. */
        void reachOf(Table table) {
            begin(table.columns);
            for (int i = 0; i < table.rows; i++) {
                rows[height].read(table, i, 1);
                takeIn();
            }
        }

        /** The stair of all rows (xT, x): what multiples reach, and behind it the multiples. */
        void reachWithMultiples(Table table) {
            begin(table.columns + table.rows);
            for (int i = 0; i < table.rows; i++) {
                Row next = rows[height];
                next.read(table, i, 1);
                for (int j = 0; j < table.rows; j++) {
                    next.cells[table.columns + j].put(i == j ? 1 : 0);
                }
                takeIn();
            }
        }

        /** Takes the row that stands behind the stair into it. */
        void takeIn() {
            int place = 0;
            int lead = rows[height].firstFilled(width);
            while (place < height && leads[place] <= lead) {
                if (leads[place] == lead) {
                    clearLead(place, lead);
                    lead = rows[height].firstFilled(width);
                }
                place++;
            }
            if (lead < width && height + 1 < rows.length) {
                Row next = rows[height];
                for (int i = height; i > place; i--) {
                    rows[i] = rows[i - 1];
                    leads[i] = leads[i - 1];
                }
                rows[place] = next;
                leads[place] = lead;
                height++;
            }
            tidy();
        }

        /** Divides a row of the stair and the next row by each other until the next has a 0 there. */
        private void clearLead(int place, int lead) {
            for (int step = 0; step < MANY && rows[height].cells[lead].sign != 0; step++) {
                Row next = rows[height];
                Row kept = rows[place];
                desk.divide(next.cells[lead], kept.cells[lead], factor);
                next.lessMultiple(factor, kept, lead, width, product);
                if (next.cells[lead].sign != 0) {
                    rows[place] = next;
                    rows[height] = kept;
                }
            }
        }

        /** Leads above 0, and the numbers above them from 0 up to less than they are. */
        private void tidy() {
            for (int i = height - 1; i >= 0; i--) {
                if (rows[i].cells[leads[i]].sign < 0) {
                    rows[i].negate(width);
                }
                for (int k = i + 1; k < height; k++) {
                    desk.divide(rows[i].cells[leads[k]], rows[k].cells[leads[k]], factor);
                    rows[i].lessMultiple(factor, rows[k], leads[k], width, product);
                }
            }
        }

        /**
         * Takes multiples of the stair's rows, from one up to before another, off a row, so that
         * its numbers in the columns of their leads become less than these; tells how often in
         * the factors, and whether only 0s are left.
         */
        boolean takeOff(Row row, int from, int to, Row factors) {
            for (int k = from; k < to; k++) {
                int lead = leads[k];
                Whole often = factors.cells[k - from];
                desk.divide(row.cells[lead], rows[k].cells[lead], often);
                row.lessMultiple(often, rows[k], lead, width, product);
            }
            return row.firstFilled(width) == width;
        }

        int rowsLeadingBefore(int column) {
            int found = 0;
            while (found < height && leads[found] < column) {
                found++;
            }
            return found;
        }

        boolean isDiagonal() {
            for (int i = 0; i < height; i++) {
                for (int j = 0; j < width; j++) {
                    if ((rows[i].cells[j].sign != 0) != (i == j)) {
                        return false;
                    }
                }
            }
            return true;
        }

        /** Whether the table has just these rows, and behind them rows of 0s. */
        boolean isWrittenIn(Table table) {
            for (int i = 0; i < table.rows; i++) {
                for (int j = 0; j < table.columns; j++) {
                    int number = table.numbers[i * SIDE + j];
                    if (i < height ? !rows[i].cells[j].is(number) : number != 0) {
                        return false;
                    }
                }
            }
            return true;
        }

        void multiplyLeads(Whole result) {
            result.put(1);
            for (int k = 0; k < height; k++) {
                product.product(result, rows[k].cells[leads[k]]);
                result.copy(product);
            }
        }
    }
}

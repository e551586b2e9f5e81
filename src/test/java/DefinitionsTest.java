import java.math.BigInteger;
import java.util.Random;

/**
 * Holds what is told against what the terms say that it is, not against another way to work it
 * out: a STAIR must have the form of one and the same LATTICE, a KERNEL must give 0s, and so on.
 * Whether a row is in a LATTICE is told here by minors alone.
 */
public final class DefinitionsTest {
    private static final int ROUNDS = 800;
    private static final BigInteger ZERO = BigInteger.ZERO;
    private static final BigInteger ONE = BigInteger.ONE;
    private static final BigInteger[][] NOTHING = {};

    private static final Due DUE = new Due("DefinitionsTest");

    private final Random random;
    private final int shape;
    private final BigInteger[][] a;
    private final BigInteger[][] b;
    private final int columns;
    private String words = "";

    private DefinitionsTest(int round) {
        random = new Random(round * 104729L + 17);
        shape = round % 6;
        columns = 1 + random.nextInt(5);
        a = round % 7 == 0 ? turning() : draw(1 + random.nextInt(5));
        b = random.nextInt(3) == 0 ? mixed(a) : draw(1 + random.nextInt(5));
    }

    public static void main(String[] args) {
        for (int round = 0; round < ROUNDS; round++) {
            DefinitionsTest test = new DefinitionsTest(round);
            test.words = "round " + round + ", " + Due.text(test.a, test.columns) + " and "
                    + Due.text(test.b, test.columns) + ": ";
            test.forms();
            test.equations();
            test.lattices();
            test.squares();
        }
        DUE.end();
    }

    // ---- the tables

    private BigInteger[][] draw(int rows) {
        BigInteger[][] m = new BigInteger[rows][columns];
        for (BigInteger[] row : m) {
            for (int j = 0; j < columns; j++) {
                row[j] = BigInteger.valueOf(number());
            }
        }
        return m;
    }

    private int number() {
        switch (shape) {
            case 0:
                return random.nextInt(5) - 2;
            case 1:
                return random.nextInt(2001) - 1000;
            case 2:
                return random.nextInt(3) > 0 ? 0 : random.nextInt(2001) - 1000;
            case 3:
                return 60 * (random.nextInt(33) - 16);
            case 4:
                return random.nextBoolean() ? 1000 - random.nextInt(3) : random.nextInt(3) - 1000;
            default:
                return random.nextInt(31) - 15;
        }
    }

    /** A table of WORTH 1 or -1: the unit table, with rows added to and taken off one another. */
    private BigInteger[][] turning() {
        BigInteger[][] m = new BigInteger[columns][];
        for (int i = 0; i < columns; i++) {
            m[i] = product(new BigInteger[0], NOTHING, columns);
            m[i][i] = random.nextBoolean() ? ONE : ONE.negate();
        }
        for (int step = 0; step < 12 && columns > 1; step++) {
            int i = random.nextInt(columns);
            int k = (i + 1 + random.nextInt(columns - 1)) % columns;
            BigInteger often = BigInteger.valueOf(random.nextInt(5) - 2);
            BigInteger[] row = product(new BigInteger[] {ONE, often},
                    new BigInteger[][] {m[i], m[k]}, columns);
            m[i] = canBe(row) ? row : m[i];
        }
        return m;
    }

    private static boolean canBe(BigInteger[] row) {
        for (BigInteger number : row) {
            if (number.abs().intValue() > 1000) {
                return false;
            }
        }
        return true;
    }

    /** Rows that are whole multiples of others, if such can stand in a TABLE; else the others. */
    private BigInteger[][] mixed(BigInteger[][] rows) {
        BigInteger[][] out = new BigInteger[1 + random.nextInt(5)][];
        for (int i = 0; i < out.length; i++) {
            BigInteger[] often = new BigInteger[rows.length];
            for (int k = 0; k < often.length; k++) {
                often[k] = BigInteger.valueOf(random.nextInt(7) - 3);
            }
            out[i] = product(often, rows, columns);
            if (!canBe(out[i])) {
                return rows;
            }
        }
        return out;
    }

    private LatticeBench bench() {
        LatticeBench x = new LatticeBench();
        put(x, 0, a);
        put(x, 1, b);
        return x;
    }

    private static void put(LatticeBench x, int t, BigInteger[][] rows) {
        int[][] numbers = new int[rows.length][rows[0].length];
        for (int i = 0; i < rows.length; i++) {
            for (int j = 0; j < rows[i].length; j++) {
                numbers[i][j] = rows[i][j].intValueExact();
            }
        }
        Due.fill(x, t, numbers);
    }

    // ---- what the terms say

    private void yes(String what, boolean got) {
        DUE.same(words + what, got, true);
    }

    private void same(String what, Object got, Object want) {
        DUE.same(words + what, got, want);
    }

    /** So many rows as the call said, in the form of a STAIR. */
    private void isStair(String what, BigInteger[][] rows, int said) {
        same(what + ": rows", said, rows.length);
        int before = -1;
        for (int i = 0; i < rows.length; i++) {
            int lead = Plain.lead(rows[i]);
            yes(what + ": a LEAD further right", lead > before && lead < rows[i].length);
            yes(what + ": a LEAD above 0", lead < rows[i].length && rows[i][lead].signum() > 0);
            for (int k = 0; k < i && lead < rows[i].length; k++) {
                yes(what + ": above a LEAD", isFromZeroBelow(rows[k][lead], rows[i][lead]));
            }
            before = lead;
        }
    }

    private static boolean isFromZeroBelow(BigInteger number, BigInteger bound) {
        return number.signum() >= 0 && number.compareTo(bound) < 0;
    }

    private boolean isOneLattice(BigInteger[][] x, BigInteger[][] y) {
        return Plain.within(x, y, columns) && Plain.within(y, x, columns);
    }

    /** A row times a table of so many columns. */
    private static BigInteger[] product(BigInteger[] often, BigInteger[][] rows, int width) {
        BigInteger[] sum = new BigInteger[width];
        for (int j = 0; j < width; j++) {
            sum[j] = ZERO;
            for (int k = 0; k < rows.length; k++) {
                sum[j] = sum[j].add(often[k].multiply(rows[k][j]));
            }
        }
        return sum;
    }

    private static String text(BigInteger[] row) {
        return java.util.Arrays.toString(row);
    }

    private String zeros() {
        return text(product(new BigInteger[0], NOTHING, columns));
    }

    // ---- forms

    private void forms() {
        LatticeBench x = bench();
        int rank = Plain.rank(a, columns);
        same("RANK", x.about(0, 4), rank);
        int said = x.stair(0);
        BigInteger[][] stair = Due.numbers(x);
        isStair("stair", stair, said);
        yes("stair: the LATTICE", isOneLattice(stair, a));

        said = x.kernel(0);
        BigInteger[][] kernel = Due.numbers(x);
        isStair("kernel", kernel, said);
        same("kernel: rows", kernel.length, a.length - rank);
        for (BigInteger[] row : kernel) {
            same("kernel: 0s", text(product(row, a, columns)), zeros());
        }
        // Only all such rows share nothing in their minors.
        same("kernel: all", Plain.shared(kernel, a.length, kernel.length), ONE);

        said = x.sizes(0);
        BigInteger[][] sizes = Due.numbers(x);
        same("sizes", said, rank);
        same("sizes: rows", sizes.length, rank > 0 ? 1 : 0);
        BigInteger all = ONE;
        for (int k = 0; k < rank; k++) {
            all = all.multiply(sizes[0][k]);
            same("sizes: G(" + (k + 1) + ")", all, Plain.shared(a, columns, k + 1));
        }
    }

    // ---- equations

    private void equations() {
        for (int i = 0; i < b.length; i++) {
            boolean in = Plain.reaches(a, b[i], columns);
            solve(i, in);
            LatticeBench x = bench();
            same("reach", x.reach(0, 1, i), in ? 1 : 0);
            if (in) {
                BigInteger[][] often = Due.numbers(x);
                x.stair(0);
                BigInteger[][] stair = Due.numbers(x);
                same("reach: rows", often.length, stair.length > 0 ? 1 : 0);
                BigInteger[] made = product(stair.length > 0 ? often[0] : null, stair, columns);
                same("reach: what it makes", text(made), text(b[i]));
            }
            order(i);
        }
    }

    private void solve(int i, boolean in) {
        LatticeBench x = bench();
        same("solve", x.solve(0, 1, i), in ? 1 : 0);
        if (!in) {
            return;
        }
        BigInteger[][] solved = Due.numbers(x);
        same("solve: rows", solved.length, 1);
        same("solve: columns", solved[0].length, a.length);
        same("solve: what it makes", text(product(solved[0], a, columns)), text(b[i]));
        x.kernel(0);
        for (BigInteger[] row : Due.numbers(x)) {
            int lead = Plain.lead(row);
            yes("solve: in the LEADS' columns", isFromZeroBelow(solved[0][lead], row[lead]));
        }
    }

    private void order(int i) {
        LatticeBench x = bench();
        boolean has = Plain.rank(Plain.over(a, new BigInteger[][] {b[i]}), columns)
                == Plain.rank(a, columns);
        same("order", x.order(0, 1, i), has ? 1 : 0);
        if (!has) {
            return;
        }
        BigInteger order = Due.number(x, 0, 0);
        same("order: 1 by 1", x.answer(0) + "x" + x.answer(1), "1x1");
        yes("order: above 0", order.signum() > 0);
        yes("order: in the LATTICE", Plain.reaches(a, times(b[i], order), columns));
        // The multiples that are in it are those of the least: without any prime it must be out.
        BigInteger rest = order;
        for (int prime = 2; prime < 2000 && rest.signum() > 0; prime++) {
            BigInteger p = BigInteger.valueOf(prime);
            if (rest.mod(p).signum() == 0) {
                yes("order: the least", !Plain.reaches(a, times(b[i], order.divide(p)), columns));
            }
            while (rest.mod(p).signum() == 0) {
                rest = rest.divide(p);
            }
        }
        if (rest.compareTo(ONE) > 0) {
            yes("order: the least", !Plain.reaches(a, times(b[i], order.divide(rest)), columns));
        }
    }

    private static BigInteger[] times(BigInteger[] row, BigInteger factor) {
        return product(new BigInteger[] {factor}, new BigInteger[][] {row}, row.length);
    }

    // ---- lattices

    private void lattices() {
        LatticeBench x = bench();
        BigInteger[][] joined = Plain.over(a, b);
        int said = x.join(0, 1);
        BigInteger[][] join = Due.numbers(x);
        isStair("join", join, said);
        yes("join: the LATTICE", isOneLattice(join, joined));

        said = x.both(0, 1);
        BigInteger[][] both = Due.numbers(x);
        isStair("both", both, said);
        yes("both: in the one", Plain.within(both, a, columns));
        yes("both: in the other", Plain.within(both, b, columns));
        int rankOfBoth = Plain.rank(a, columns) + Plain.rank(b, columns) - Plain.rank(joined, columns);
        same("both: RANK", both.length, rankOfBoth);
        // What the one has beside both is what the joined one has beside the other.
        same("both: all", finite(both, stairOf(b)), finite(a, join));

        boolean within = Plain.within(a, b, columns);
        same("within", x.within(0, 1), within ? 1 : 0);
        quotient(within);
    }

    private BigInteger[][] stairOf(BigInteger[][] rows) {
        LatticeBench x = new LatticeBench();
        put(x, 0, rows);
        x.stair(0);
        return Due.numbers(x);
    }

    /** How many the finite part of the QUOTIENT of a STAIR's LATTICE by that of other rows has. */
    private BigInteger finite(BigInteger[][] rows, BigInteger[][] stair) {
        BigInteger[][] often = new BigInteger[rows.length][];
        for (int i = 0; i < rows.length; i++) {
            often[i] = Plain.multiples(stair, rows[i]);
            same("multiples", text(product(often[i], stair, columns)), text(rows[i]));
        }
        return Plain.shared(often, stair.length, Plain.rank(often, stair.length));
    }

    private void quotient(boolean within) {
        LatticeBench x = bench();
        int free = Plain.rank(b, columns) - Plain.rank(a, columns);
        same("index", x.index(0, 1), !within ? 0 : free > 0 ? -2 : 1);
        BigInteger index = within && free == 0 ? Due.number(x, 0, 0) : null;
        int said = x.quotient(0, 1);
        if (!within) {
            same("quotient", said, -2);
            return;
        }
        BigInteger[][] told = Due.numbers(x);
        BigInteger[] sizes = told.length > 0 ? told[0] : new BigInteger[0];
        same("quotient", said, 10 * free + sizes.length);
        BigInteger all = ONE;
        BigInteger before = ONE;
        for (BigInteger size : sizes) {
            yes("quotient: above 1", size.compareTo(ONE) > 0);
            same("quotient: divides the next one", size.mod(before), ZERO);
            before = size;
            all = all.multiply(size);
        }
        same("quotient: all SIZES", all, finite(a, stairOf(b)));
        if (index != null) {
            same("index: all SIZES", index, all);
        }
    }

    // ---- squares

    private void squares() {
        LatticeBench x = bench();
        boolean square = a.length == columns;
        BigInteger worth = square ? Plain.worth(a) : ZERO;
        same("worth", x.worth(0), square ? worth.signum() : -2);
        if (square) {
            same("worth: the ANSWER", Due.told(x), "1x1: " + worth);
        }
        boolean turning = worth.abs().equals(ONE);
        same("back", x.back(0), turning);
        BigInteger[][] back = turning ? Due.numbers(x) : NOTHING;
        for (int i = 0; i < back.length; i++) {
            BigInteger[] unit = product(new BigInteger[0], NOTHING, columns);
            unit[i] = ONE;
            same("back: and on again", text(product(back[i], a, columns)), text(unit));
        }
        same("dual", x.dual(0), worth.signum() == 0 ? 0 : columns + 1);
        if (worth.signum() != 0) {
            dual(Due.numbers(x), worth);
        }
    }

    private void dual(BigInteger[][] told, BigInteger worth) {
        BigInteger least = told[0][0];
        BigInteger shared = least;
        yes("dual: D above 0", least.signum() > 0);
        BigInteger[][] stair = java.util.Arrays.copyOfRange(told, 1, told.length);
        isStair("dual", stair, columns);
        for (int j = 1; j < columns; j++) {
            same("dual: beside D", told[0][j], ZERO);
        }
        for (BigInteger[] row : stair) {
            for (BigInteger[] step : a) {
                BigInteger sum = ZERO;
                for (int j = 0; j < columns; j++) {
                    sum = sum.add(row[j].multiply(step[j]));
                    shared = shared.gcd(row[j]);
                }
                same("dual: whole products", sum.mod(least), ZERO);
            }
        }
        same("dual: all", Plain.worth(stair).multiply(worth.abs()), least.pow(columns));
        same("dual: D is the least", shared, ONE);
    }
}

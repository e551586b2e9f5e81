/** Promises 23 to 28: join, both, within, index, quotient and dual. */
final class LatticeBoundaries {
    private static final int[][] UNIT = Boundary.square(5, 1, 0);
    private static final int[][] ZEROS = Boundary.square(5, 0, 0);

    private final Boundary b;

    LatticeBoundaries(Boundary b) {
        this.b = b;
    }

    void all() {
        join();
        joinOfNone();
        both();
        bothOfNone();
        within();
        withinOfNone();
        index();
        indexNotWithin();
        indexOfLesserRank();
        indexOfNone();
        quotient();
        quotientWithoutSizes();
        quotientFree();
        quotientNotWithin();
        quotientOfNone();
        dual();
        leastD();
        noDual();
        dualOfNone();
    }

    private static int[][] rows(int[]... rows) {
        return Boundary.rows(rows);
    }

    private static int[] row(int... numbers) {
        return Boundary.row(numbers);
    }

    private interface Asking {
        int ask(LatticeBench x, int a, int b);
    }

    private void noSuchOnes(Asking asking) {
        int[][] one = rows(row(1, 2), row(3, 4));
        for (int t : Boundary.NO_TABLES) {
            b.leaves("a = " + t, -1, x -> asking.ask(x, t, 0), one);
            b.leaves("b = " + t, -1, x -> asking.ask(x, 0, t), one);
            b.leaves("both " + t, -1, x -> asking.ask(x, t, t), one);
        }
    }

    private void otherColumns(Asking asking) {
        int[][] one = rows(row(1, 2), row(3, 4));
        b.leaves("more columns", -1, x -> asking.ask(x, 0, 1), one, rows(row(1, 2, 0), row(3, 4, 0)));
        b.leaves("less columns", -1, x -> asking.ask(x, 0, 1), one, rows(row(1), row(2)));
        b.leaves("0s of other columns", -1, x -> asking.ask(x, 0, 1), new int[2][4], new int[2][5]);
        b.leaves("turned", -1, x -> asking.ask(x, 0, 1), rows(row(1, 2)), rows(row(1), row(2)));
    }

    private void join(int want, String answer, int[][] one, int[][] other) {
        b.tells("join", want, answer, x -> x.join(0, 1), one, other);
        b.tells("join, the other way", want, answer, x -> x.join(1, 0), one, other);
    }

    private void join() {
        b.says(23, "The STAIR of the least LATTICE that has both comes to the ANSWER: its rows");
        join(1, "1x1: 2", rows(row(4)), rows(row(6)));
        join(2, "2x2: 1 1 / 0 2", rows(row(2, 0), row(0, 2)), rows(row(3, 3)));
        join(1, "1x2: 3 3", rows(row(0, 0)), rows(row(-3, -3), null));
        join(0, "0x0:", rows(row(0, 0)), rows(row(0, 0), null, row(0, 0)));
        join(2, "2x2: 1 0 / 0 1", rows(row(0, 1)), rows(row(1, 0)));
        join(5, "5x5: 1 0 0 0 0 / 0 1 0 0 0 / 0 0 1 0 0 / 0 0 0 1 0 / 0 0 0 0 1",
                Boundary.square(5, 1000, 0), Boundary.square(5, 999, 0));
        join(1, "1x1: 1", rows(row(0), row(0), row(0), row(0), row(6)),
                rows(row(0), row(0), row(0), row(0), row(35)));
        b.tells("with itself", 1, "1x2: 2 4", x -> x.join(0, 0), rows(row(-2, -4), row(4, 8)));
        b.tells("one WITHIN the other", 1, "1x2: 2 4", x -> x.join(0, 1), rows(row(6, 12)), rows(row(2, 4)));
    }

    private void joinOfNone() {
        b.says(23, "; NONE: no such ones");
        noSuchOnes((x, one, other) -> x.join(one, other));
        b.says(23, ", or not of the same columns.");
        otherColumns((x, one, other) -> x.join(one, other));
    }

    private void both(int want, String answer, int[][] one, int[][] other) {
        b.tells("both", want, answer, x -> x.both(0, 1), one, other);
        b.tells("both, the other way", want, answer, x -> x.both(1, 0), one, other);
    }

    private void both() {
        b.says(24, "The STAIR of all rows in both comes to the ANSWER: its rows");
        both(1, "1x1: 12", rows(row(4)), rows(row(-6)));
        both(2, "2x2: 12 0 / 0 12", rows(row(4, 0), row(0, 6)), rows(row(6, 0), row(0, 4)));
        both(1, "1x2: 6 6", rows(row(2, 0), row(0, 2)), rows(row(3, 3)));
        both(0, "0x0:", rows(row(1, 0)), rows(row(0, 1)));
        both(0, "0x0:", rows(row(2, 1), null), rows(row(0, 0)));
        both(0, "0x0:", ZEROS, UNIT);
        both(5, "5x5: 6 0 0 0 0 / 0 6 0 0 0 / 0 0 6 0 0 / 0 0 0 6 0 / 0 0 0 0 6",
                Boundary.square(5, 2, 0), Boundary.square(5, 3, 0));
        both(1, "1x3: 0 1 1", rows(row(1, 0, 0), row(0, 1, 1)), rows(row(0, 1, 0), row(0, 0, 1)));
        both(1, "1x2: 6 12", rows(row(2, 4)), rows(row(3, 6), row(9, 18)));
        both(1, "1x1: 210", rows(row(0), row(0), row(0), row(0), row(6)),
                rows(row(0), row(0), row(0), row(0), row(35)));
        both(1, "1x1: 1", rows(row(6), row(10), row(15)), rows(row(0), row(2), row(3)));
        b.tells("with itself", 2, "2x2: 2 0 / 0 4", x -> x.both(0, 0), rows(row(2, 4), row(6, 8)));
        both(5, Due.text(fifthPowers(), 5), Boundary.steps(5, 1000, 1), Boundary.steps(5, 999, 1));
    }

    /** What is in both of two lattices whose last LEADS share nothing. */
    private static java.math.BigInteger[][] fifthPowers() {
        java.math.BigInteger[][] one = new java.math.BigInteger[5][5];
        java.math.BigInteger[][] other = new java.math.BigInteger[5][5];
        for (int i = 0; i < 25; i++) {
            one[i / 5][i % 5] = java.math.BigInteger.valueOf(Boundary.steps(5, 1000, 1)[i / 5][i % 5]);
            other[i / 5][i % 5] = java.math.BigInteger.valueOf(Boundary.steps(5, 999, 1)[i / 5][i % 5]);
        }
        return Plain.both(one, other, 5);
    }

    private void bothOfNone() {
        b.says(24, "; NONE likewise.");
        noSuchOnes((x, one, other) -> x.both(one, other));
        otherColumns((x, one, other) -> x.both(one, other));
    }

    private void within(int want, int[][] one, int[][] other) {
        b.leaves("within", want, x -> x.within(0, 1), one, other);
    }

    private void within() {
        b.says(25, "Whether the LATTICE of a is WITHIN that of b: 1, 0");
        within(1, rows(row(4)), rows(row(2)));
        within(0, rows(row(2)), rows(row(4)));
        within(1, rows(row(-4)), rows(row(6), row(10)));
        within(1, rows(row(4, 2)), rows(row(2, 0), row(0, 2)));
        within(0, rows(row(4, 1)), rows(row(2, 0), row(0, 2)));
        b.leaves("in itself", 1, x -> x.within(0, 0), rows(row(2, 4), row(6, 8)));
        b.says(25, "A LATTICE A is WITHIN B if all of A's rows are in B.");
        within(0, rows(row(2), row(4), row(6), row(8), row(9)), rows(row(2)));
        within(0, rows(row(1), row(2)), rows(row(2)));
        within(1, rows(row(2), row(4), row(6), row(8), row(-10)), rows(row(2)));
        within(1, rows(row(0, 0), null), rows(row(5, 5)));
        within(1, ZEROS, ZEROS);
        within(0, rows(row(5, 5)), rows(row(0, 0), null));
        within(1, rows(row(2, 2), row(4, 4)), rows(row(1, 1)));
        within(0, rows(row(1, 0)), rows(row(1, 1)));
    }

    private void withinOfNone() {
        b.says(25, "; NONE likewise.");
        noSuchOnes((x, one, other) -> x.within(one, other));
        otherColumns((x, one, other) -> x.within(one, other));
    }

    private void index(String answer, int[][] one, int[][] other) {
        b.tells("index", 1, "1x1: " + answer, x -> x.index(0, 1), one, other);
    }

    private void index() {
        b.says(26, "INDEX of a in b comes to the ANSWER (1 by 1): 1");
        index("3", rows(row(-6)), rows(row(2)));
        index("10", rows(row(4, 2), row(0, 10)), rows(row(2, 0), row(0, 2)));
        b.tells("in itself", 1, "1x1: 1", x -> x.index(0, 0), rows(row(2, 4), row(6, 8)));
        b.says(26, "INDEX of A in B: if A is WITHIN B and of the same RANK, the product of the LEADS of "
                + "A's STAIR over that of B's.");
        index("1000000000000000", Boundary.square(5, 1000, 0), UNIT);
        index("1000000000000", Boundary.square(5, 1000, 0), rows(row(10, 0, 0, 0, 0), row(0, 5, 0, 0, 0),
                row(0, 0, 4, 0, 0), row(0, 0, 0, 5, 0), row(0, 0, 0, 0, 1)));
        index("4", rows(row(8, 4)), rows(row(2, 1), row(-2, -1)));
        index("3", rows(row(0, 6, 3), row(0, 12, 6)), rows(row(0, 2, 1)));
        index("1", rows(row(1, 1), row(0, 1)), rows(row(0, 1), row(1, 0)));
        index("1", ZEROS, ZEROS);
        index("1", rows(row(0)), rows(row(0), null));
    }

    private void indexNotWithin() {
        b.says(26, "; 0: not WITHIN");
        b.leaves("the other way", 0, x -> x.index(1, 0), rows(row(4)), rows(row(2)));
        b.leaves("of the same RANK", 0, x -> x.index(0, 1), rows(row(1, 0)), rows(row(0, 1)));
        b.leaves("of a lesser RANK", 0, x -> x.index(0, 1), rows(row(4, 1)), rows(row(2, 0), row(0, 2)));
        b.leaves("of a greater RANK", 0, x -> x.index(1, 0), rows(row(4, 2)), rows(row(2, 0), row(0, 2)));
        b.leaves("in 0s", 0, x -> x.index(0, 1), rows(row(4, 2)), rows(row(0, 0)));
    }

    private void indexOfLesserRank() {
        b.says(26, "; -2: of a lesser RANK");
        b.leaves("1 of 2", -2, x -> x.index(0, 1), rows(row(4, 2)), rows(row(2, 0), row(0, 2)));
        b.leaves("0 of 1", -2, x -> x.index(0, 1), rows(row(0)), rows(row(2)));
        b.leaves("0 of 5", -2, x -> x.index(0, 1), new int[1][5], UNIT);
        b.leaves("4 of 5", -2, x -> x.index(0, 1), Boundary.square(5, 4, -1), UNIT);
        b.leaves("as many rows", -2, x -> x.index(0, 1), rows(row(1, 0), row(2, 0)),
                rows(row(1, 0), row(0, 1)));
    }

    private void indexOfNone() {
        b.says(26, "; NONE likewise.");
        noSuchOnes((x, one, other) -> x.index(one, other));
        otherColumns((x, one, other) -> x.index(one, other));
    }

    private void quotient(int want, String answer, int[][] one, int[][] other) {
        b.tells("quotient", want, answer, x -> x.quotient(0, 1), one, other);
    }

    private void quotient() {
        b.says(27, "QUOTIENT of b by a: its SIZES come to the ANSWER (one row");
        quotient(1, "1x1: 3", rows(row(-6)), rows(row(2)));
        quotient(2, "1x2: 2 6", rows(row(4, 0), row(0, 12)), rows(row(2, 0), row(0, 2)));
        quotient(5, "1x5: 2 2 2 2 2", Boundary.square(5, 2, 0), UNIT);
        quotient(1, "1x1: 1000000000000000", Boundary.steps(5, 1000, 1), UNIT);
        b.says(27, "QUOTIENT of B by A (WITHIN it): with C the table of the whole multiples of the rows "
                + "of B's STAIR that make those of A's: the SIZES of C that are above 1");
        quotient(1, "1x1: 6", rows(row(2, 0), row(0, 3)), rows(row(1, 0), row(0, 1)));
        quotient(1, "1x1: 2", rows(row(2, 0), row(0, 2)), rows(row(1, 1), row(0, 2)));
        quotient(1, "1x1: 2", rows(row(1, 0, 0), row(0, 1, 0), row(0, 0, 2)),
                rows(row(1, 0, 0), row(0, 1, 0), row(0, 0, 1)));
        quotient(2, "1x2: 2 4", rows(row(0, 8), row(6, 0)), rows(row(0, 2), row(3, 0)));
        quotient(3, "1x3: 2 2 60", rows(row(10, 0, 0), row(0, 6, 0), row(0, 0, 4)),
                rows(row(1, 0, 0), row(0, 1, 0), row(0, 0, 1)));
    }

    private void quotientWithoutSizes() {
        b.says(27, "; no rows without any)");
        b.tells("of itself", 0, "0x0:", x -> x.quotient(0, 0), rows(row(2, 4), row(6, 8)));
        quotient(0, "0x0:", rows(row(1, 1), row(0, 1)), rows(row(0, 1), row(1, 0)));
        quotient(0, "0x0:", ZEROS, ZEROS);
        quotient(0, "0x0:", rows(row(0, 0), null), rows(row(0, 0)));
        quotient(10, "0x0:", rows(row(6, 2)), rows(row(2, 0), row(0, 2)));
    }

    private void quotientFree() {
        b.says(27, ": 10 times how many are FREE, and how many SIZES");
        int[] want = {50, 41, 32, 23, 14, 5};
        String[] answers = {"0x0:", "1x1: 3", "1x2: 3 3", "1x3: 3 3 3", "1x4: 3 3 3 3", "1x5: 3 3 3 3 3"};
        for (int rank = 0; rank <= 5; rank++) {
            int[][] one = new int[5][5];
            for (int i = 0; i < rank; i++) {
                one[i][i] = 3;
            }
            quotient(want[rank], answers[rank], one, UNIT);
        }
        b.says(27, ", and how many are FREE: RANK of B less that of A.");
        quotient(10, "0x0:", rows(row(0)), rows(row(7)));
        quotient(11, "1x1: 2", rows(row(8, 4)), rows(row(2, 0), row(0, 2)));
        quotient(1, "1x1: 4", rows(row(8, 4), row(16, 8)), rows(row(2, 1), row(4, 2)));
        quotient(40, "0x0:", Boundary.square(5, 1, 1), UNIT);
        quotient(13, "1x3: 5 5 5", Boundary.square(5, 4, -1), UNIT);
    }

    private void quotientNotWithin() {
        b.says(27, "; -2: not WITHIN");
        b.leaves("the other way", -2, x -> x.quotient(1, 0), rows(row(4)), rows(row(2)));
        b.leaves("of the same RANK", -2, x -> x.quotient(0, 1), rows(row(1, 0)), rows(row(0, 1)));
        b.leaves("of a lesser RANK", -2, x -> x.quotient(0, 1), rows(row(4, 1)), rows(row(2, 0), row(0, 2)));
        b.leaves("of a greater RANK", -2, x -> x.quotient(1, 0), rows(row(4, 2)), rows(row(2, 0), row(0, 2)));
        b.leaves("of 0s", -2, x -> x.quotient(0, 1), rows(row(4, 2)), rows(row(0, 0)));
        b.leaves("the last row only", -2, x -> x.quotient(0, 1), rows(row(2, 0), row(0, 1)),
                rows(row(2, 0), row(0, 2)));
    }

    private void quotientOfNone() {
        b.says(27, "; NONE likewise.");
        noSuchOnes((x, one, other) -> x.quotient(one, other));
        otherColumns((x, one, other) -> x.quotient(one, other));
    }

    private void dual(int want, String answer, int[]... rows) {
        b.tells("dual", want, answer, x -> x.dual(0), rows);
    }

    private void dual() {
        b.says(28, "DUAL: D in row 0, column 0 of the ANSWER (else 0s there), behind it the STAIR: "
                + "its rows, one more");
        dual(2, "2x1: 1 / 1", row(1));
        dual(2, "2x1: 1000 / 1", row(-1000));
        dual(3, "3x2: 4 0 / 2 0 / 0 1", row(2, 4), row(6, 8));
        dual(3, "3x2: 1 0 / 1 0 / 0 1", row(0, 1), row(1, 0));
        dual(3, "3x2: 6 0 / 1 4 / 0 6", row(2, 1), row(0, 3));
        dual(6, "6x5: 7 0 0 0 0 / 7 0 0 0 0 / 0 7 0 0 0 / 0 0 7 0 0 / 0 0 0 7 0 / 0 0 0 0 1",
                row(1, 0, 0, 0, 0), row(0, 1, 0, 0, 0), row(0, 0, 1, 0, 0), row(0, 0, 0, 1, 0),
                row(0, 0, 0, 0, 7));
        LatticeBench x = Boundary.bench(Boundary.steps(5, 1000, 1));
        b.same("a long one", x.dual(0), 6);
        b.same("D", String.valueOf(Due.number(x, 0, 0)), "1000000000000000");
        b.same("the first LEAD", String.valueOf(Due.number(x, 1, 0)), "1000000000000");
        b.same("the last LEAD", String.valueOf(Due.number(x, 5, 4)), "1000000000000");
    }

    private void leastD() {
        b.says(28, "DUAL of a SQUARE TABLE whose WORTH is not 0: all rows of fractions whose product "
                + "(number by number, added up) with each row of the LATTICE is whole; told as the least D "
                + "above 0 with which all of them are whole, and the STAIR of D times them.");
        dual(3, "3x2: 2 0 / 1 0 / 0 1", row(2, 0), row(0, 2));
        dual(3, "3x2: 2 0 / 1 0 / 0 1", row(0, -2), row(-2, 0));
        dual(3, "3x2: 12 0 / 3 0 / 0 2", row(4, 0), row(0, 6));
        dual(3, "3x2: 1 0 / 1 0 / 0 1", row(3, 2), row(5, 3));
        dual(3, "3x2: 1000 0 / 1 0 / 0 1", row(1000, 0), row(0, -1000));
        dual(3, "3x2: 2 0 / 1 1 / 0 2", row(1, 1), row(0, 2));
        dual(4, "4x3: 5 0 0 / 5 0 0 / 0 1 0 / 0 0 1", row(1, 0, 0), row(0, 5, 0), row(0, 0, 5));
        dual(6, "6x5: 1000 0 0 0 0 / 1 0 0 0 0 / 0 1 0 0 0 / 0 0 1 0 0 / 0 0 0 1 0 / 0 0 0 0 1",
                Boundary.square(5, 1000, 0));
    }

    private void noDual() {
        b.says(28, "; 0: not SQUARE, or of WORTH 0");
        b.leaves("one row too few", 0, x -> x.dual(0), rows(row(1, 2)));
        b.leaves("one row too many", 0, x -> x.dual(0), rows(row(1), row(2)));
        b.leaves("4 by 5", 0, x -> x.dual(0), rows(row(1, 0, 0, 0, 0), row(0, 1, 0, 0, 0),
                row(0, 0, 1, 0, 0), row(0, 0, 0, 1, 0)));
        b.leaves("a DIAGONAL one with a row of 0s behind", 0, x -> x.dual(0),
                rows(row(1, 0), row(0, 1), null));
        b.leaves("a 0", 0, x -> x.dual(0), rows(row(0)));
        b.leaves("twice the same row", 0, x -> x.dual(0), rows(row(1, 2), row(2, 4)));
        b.leaves("a missing LEAF", 0, x -> x.dual(0), rows(row(1, 0), null));
        b.leaves("5 by 5 of RANK 4", 0, x -> x.dual(0), Boundary.square(5, 4, -1));
        b.leaves("5 by 5 of 0s", 0, x -> x.dual(0), ZEROS);
    }

    private void dualOfNone() {
        b.says(28, "; NONE: no such TABLE.");
        for (int t : Boundary.NO_TABLES) {
            b.leaves("TABLE " + t, -1, x -> x.dual(t), rows(row(3)));
        }
    }
}

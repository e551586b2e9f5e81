/** Promises 15 to 19: worth, stair, sizes, kernel and back. */
final class FormBoundaries {
    private final Boundary b;

    FormBoundaries(Boundary b) {
        this.b = b;
    }

    void all() {
        worth();
        worthOfNone();
        stair();
        stairWithoutZeros();
        stairsLeads();
        numbersAboveLeads();
        onlyOneStair();
        stairOfNone();
        sizes();
        sizesOfRankZero();
        sizesByMinors();
        sizesOfNone();
        kernel();
        kernelsRows();
        kernelOfNone();
        wayBack();
        noWayBack();
        wayBackOfOtherKinds();
    }

    private static int[][] rows(int[]... rows) {
        return Boundary.rows(rows);
    }

    private static int[] row(int... numbers) {
        return Boundary.row(numbers);
    }

    private void worth(int sign, String worth, int[]... rows) {
        b.tells("worth", sign, "1x1: " + worth, x -> x.worth(0), rows);
    }

    private void worth() {
        b.says(15, "WORTH of a SQUARE TABLE comes to the ANSWER (1 by 1): its sign");
        worth(1, "7", row(7));
        worth(-1, "-1000", row(-1000));
        worth(0, "0", row(0));
        worth(-1, "-2", row(1, 2), row(3, 4));
        worth(1, "2", row(3, 4), row(1, 2));
        worth(0, "0", row(1, 2), row(2, 4));
        worth(0, "0", row(1, 2), null);
        worth(-1, "-1", row(0, 1), row(1, 0));
        worth(1, "4", row(2, 1), row(0, 2));
        worth(1, "8", row(2, 0), row(0, 4));
        worth(-1, "-6", row(0, 0, 1), row(0, 2, 0), row(3, 0, 0));
        worth(1, "6", row(0, 1, 0), row(0, 0, 2), row(3, 0, 0));
        worth(-1, "-5", row(0, 1, 0, 0), row(0, 0, 1, 0), row(0, 0, 0, 1), row(5, 0, 0, 0));
        worth(1, "5", row(0, 1, 0, 0, 0), row(0, 0, 1, 0, 0), row(0, 0, 0, 1, 0),
                row(0, 0, 0, 0, 1), row(5, 0, 0, 0, 0));
        worth(0, "0", Boundary.square(5, 0, 0));
        worth(0, "0", Boundary.square(5, 4, -1));
        worth(1, "48000000000000000", Boundary.square(5, -1000, 1000));
        worth(-1, "-48000000000000000", Boundary.square(5, 1000, -1000));
    }

    private void worthOfNone() {
        b.says(15, "-2 when it is none.");
        b.leaves("one row too few", -2, x -> x.worth(0), rows(row(1, 2)));
        b.leaves("one row too many", -2, x -> x.worth(0), rows(row(1), row(2)));
        b.leaves("4 by 5", -2, x -> x.worth(0), new int[4][5]);
        b.leaves("5 by 4", -2, x -> x.worth(0), new int[5][4]);
        b.leaves("1 by 5", -2, x -> x.worth(0), new int[1][5]);
        b.leaves("5 by 1", -2, x -> x.worth(0), new int[5][1]);
        for (int t : Boundary.NO_TABLES) {
            b.leaves("TABLE " + t, -2, x -> x.worth(t), rows(row(3)));
        }
    }

    private void stair(String answer, int[]... rows) {
        int height = Integer.parseInt(answer.substring(0, answer.indexOf('x')));
        b.tells("stair", height, answer, x -> x.stair(0), rows);
    }

    private void stair() {
        b.says(16, "The STAIR comes to the ANSWER: its rows");
        stair("1x1: 7", row(-7));
        stair("2x2: 2 0 / 0 4", row(2, 4), row(6, 8));
        stair("2x3: 3 1 5 / 0 4 2", row(3, 1, 5), row(6, 2, 10), row(0, 4, 2));
        stair("1x1: 1", row(6), row(10), row(15), row(0), row(1000));
        stair("1x5: 1 2 3 4 5", row(-1, -2, -3, -4, -5));
        stair("1x4: 1 1000 -1000 0", row(1, 1000, -1000, 0));
        stair("4x5: 1 0 0 0 -1000 / 0 1 0 0 -1000000 / 0 0 1 0 -1000000000 / 0 0 0 1 -1000000000000",
                row(1, 0, 0, 0, -1000), row(-1000, 1, 0, 0, 0), row(0, -1000, 1, 0, 0),
                row(0, 0, -1000, 1, 0));
        stair("5x5: 1 0 0 0 999000000000000 / 0 1 0 0 1000000000 / 0 0 1 0 999999999000000"
                + " / 0 0 0 1 1000 / 0 0 0 0 1000000000000000", Boundary.steps(5, 1000, 1));
    }

    private void stairWithoutZeros() {
        b.says(16, "no row of 0s");
        stair("0x0:", row(0));
        stair("0x0:", Boundary.square(5, 0, 0));
        stair("0x0:", row(0, 0, 0, 0, 0), null, null);
        stair("1x2: 0 3", row(0, 0), row(0, 3), row(0, 0));
        stair("1x2: 2 3", row(2, 3), row(2, 3), row(-2, -3), row(4, 6), null);
        stair("2x2: 1 0 / 0 1", row(1, 0), row(0, 1), row(1, 1), row(7, -9), row(0, 0));
        stair("1x5: 1 1 1 1 1", Boundary.square(5, 1, 1));
    }

    private void stairsLeads() {
        b.says(16, "the first number that is not 0 of a row (its LEAD) stands further right than that "
                + "of the row above, and is above 0");
        stair("2x2: 1 0 / 0 1", row(0, 1), row(1, 0));
        stair("2x2: 1 0 / 0 1", row(-1, 0), row(0, -1));
        stair("1x2: 0 1000", row(0, -1000));
        stair("2x3: 0 2 0 / 0 0 3", row(0, 0, -3), row(0, -2, 0));
        stair("2x2: 2 0 / 0 3", row(4, 3), row(6, 3));
        stair("1x2: 2 4", row(-6, -12), row(-4, -8));
        stair("2x3: 1 0 2 / 0 0 5", row(1, 0, 2), row(1, 0, 7));
        stair("1x1: 1", row(-1000), row(999));
        stair("5x5: 1 0 0 0 0 / 0 1 0 0 0 / 0 0 1 0 0 / 0 0 0 1 0 / 0 0 0 0 1",
                row(0, 0, 0, 0, -1), row(0, 0, 0, -1, 0), row(0, 0, -1, 0, 0), row(0, -1, 0, 0, 0),
                row(-1, 0, 0, 0, 0));
    }

    private void numbersAboveLeads() {
        b.says(16, "the numbers above a LEAD, in its column, are from 0 up to less than it.");
        stair("2x2: 5 0 / 0 4", row(5, 0), row(0, 4));
        stair("2x2: 5 3 / 0 4", row(5, 3), row(0, 4));
        stair("2x2: 5 0 / 0 4", row(5, 4), row(0, 4));
        stair("2x2: 5 1 / 0 4", row(5, 5), row(0, 4));
        stair("2x2: 5 3 / 0 4", row(5, -1), row(0, 4));
        stair("2x2: 5 0 / 0 4", row(5, -4), row(0, 4));
        stair("2x2: 5 3 / 0 4", row(5, -5), row(0, -4));
        stair("2x2: 5 1 / 0 4", row(-5, -1), row(0, 4));
        stair("2x2: 1 0 / 0 1", row(1, 1000), row(0, 1));
        stair("3x3: 7 5 1 / 0 6 8 / 0 0 9", row(7, 11, 0), row(0, 6, 8), row(0, 0, 9));
        stair("2x3: 2 0 -1 / 0 3 7", row(2, 3, 6), row(0, 3, 7));
        stair("2x3: 2 -9 1 / 0 0 3", row(2, -9, -2), row(0, 0, 3));
    }

    private void onlyOneStair() {
        b.says(16, "The STAIR of a LATTICE is its only table of this kind");
        String stair = "3x3: 2 1 1 / 0 3 2 / 0 0 5";
        stair(stair, row(2, 1, 1), row(0, 3, 2), row(0, 0, 5));
        stair(stair, row(0, 0, -5), row(2, 1, 1), row(0, 3, 2));
        stair(stair, row(2, 4, 3), row(4, 5, 4), row(0, 0, 5), row(2, 1, 6), row(0, 3, 2));
        stair(stair, row(2, 4, -2), row(2, 7, 0), row(-2, -7, -5));
    }

    private void stairOfNone() {
        b.says(16, "NONE when there is no such TABLE.");
        for (int t : Boundary.NO_TABLES) {
            b.leaves("TABLE " + t, -1, x -> x.stair(t), rows(row(3)));
        }
    }

    private void sizes(int want, String answer, int[]... rows) {
        b.tells("sizes", want, answer, x -> x.sizes(0), rows);
    }

    private void sizes() {
        b.says(17, "SIZES come to the ANSWER (one row");
        sizes(1, "1x1: 7", row(-7));
        sizes(1, "1x1: 1", row(6, 10, 15));
        sizes(1, "1x1: 5", row(0), row(0), row(15), row(-10), row(0));
        sizes(1, "1x1: 5", row(0, 0, 5), row(0, 0, 0));
        sizes(2, "1x2: 2 4", row(2, 4), row(6, 8));
        sizes(5, "1x5: 1000 1000 1000 1000 1000", Boundary.square(5, 1000, 0));
        sizes(5, "1x5: 1 1 1 1 1000000000000000", Boundary.steps(5, 1000, 1));
        b.says(17, ": how many");
        sizes(1, "1x1: 1", Boundary.square(5, 1, 1));
        sizes(2, "1x2: 1 3", row(1, 2, 3), row(4, 5, 6), row(7, 8, 9));
        sizes(3, "1x3: 1 1 1", row(1, 0, 0, 5), row(0, 1, 0, 5), row(0, 0, 1, 5));
        sizes(4, "1x4: 1 5 5 5", Boundary.square(5, 4, -1));
    }

    private void sizesOfRankZero() {
        b.says(17, "; no rows, if the RANK is 0)");
        sizes(0, "0x0:", row(0));
        sizes(0, "0x0:", row(0, 0, 0, 0, 0), null);
        sizes(0, "0x0:", Boundary.square(5, 0, 0));
        LatticeBench x = new LatticeBench();
        x.table(0, 5, 3);
        b.same("all missing", x.sizes(0), 0);
        b.same("ANSWER", Due.told(x), "0x0:");
    }

    private void sizesByMinors() {
        b.says(17, "SIZES of a TABLE: of RANK r, for k from 1 to r, G(k) the greatest common divisor of "
                + "all its k by k minors, G(0) = 1: G(k) / G(k - 1).");
        sizes(2, "1x2: 1 6", row(2, 0), row(0, 3));
        sizes(2, "1x2: 1 6", row(3, 0), row(0, 2));
        sizes(2, "1x2: 2 12", row(4, 0), row(0, -6));
        sizes(3, "1x3: 1 30 30", row(6, 0, 0), row(0, 10, 0), row(0, 0, 15));
        sizes(3, "1x3: 2 2 60", row(10, 0, 0), row(0, 6, 0), row(0, 0, 4));
        sizes(2, "1x2: 1 4", row(1, 1), row(1, 5));
        sizes(2, "1x2: 3 3", row(3, 0, 0), row(0, 0, 3), row(3, 0, 3));
        sizes(2, "1x2: 1 2", row(1, 1, 0), row(1, -1, 0), row(0, 0, 0));
        sizes(5, "1x5: 1 1 1 1 30030", row(2, 0, 0, 0, 0), row(0, 3, 0, 0, 0), row(0, 0, 5, 0, 0),
                row(0, 0, 0, 7, 0), row(0, 0, 0, 0, 143));
        sizes(5, "1x5: 1 2 4 8 16", row(16, 0, 0, 0, 0), row(0, 8, 0, 0, 0), row(0, 0, 4, 0, 0),
                row(0, 0, 0, 2, 0), row(0, 0, 0, 0, 1));
    }

    private void sizesOfNone() {
        b.says(17, "; NONE likewise.");
        for (int t : Boundary.NO_TABLES) {
            b.leaves("TABLE " + t, -1, x -> x.sizes(t), rows(row(3)));
        }
    }

    private void kernel(int want, String answer, int[]... rows) {
        b.tells("kernel", want, answer, x -> x.kernel(0), rows);
    }

    private void kernel() {
        b.says(18, "The STAIR of the KERNEL comes to the ANSWER: its rows");
        kernel(1, "1x2: 3 -2", row(4), row(6));
        kernel(1, "1x2: 1 1", row(-5), row(5));
        kernel(1, "1x2: 1 0", row(0), row(5));
        kernel(1, "1x2: 0 1", row(5), row(0));
        kernel(2, "2x3: 5 0 -2 / 0 3 -2", row(6), row(10), row(15));
        kernel(2, "2x3: 1 1 -1 / 0 3 -2", row(1, 1), row(2, 2), row(3, 3));
        kernel(4, "4x5: 1 0 0 0 -1 / 0 1 0 0 -1 / 0 0 1 0 -1 / 0 0 0 1 -1", Boundary.square(5, 1, 1));
    }

    private void kernelsRows() {
        b.says(18, "KERNEL: the LATTICE of all rows of whole numbers, one for each row of the TABLE, "
                + "with which its rows multiplied add up to 0s.");
        kernel(0, "0x0:", row(7));
        kernel(0, "0x0:", row(1, 2), row(3, 4));
        kernel(0, "0x0:", row(1, 2, 3, 4, 5));
        kernel(0, "0x0:", Boundary.square(5, 2, 1));
        kernel(1, "1x1: 1", row(0, 0, 0, 0, 0));
        kernel(2, "2x2: 1 0 / 0 1", row(0, 0, 0), row(0, 0, 0));
        kernel(1, "1x3: 0 1 0", row(1, 2), null, row(3, 4));
        kernel(5, "5x5: 1 0 0 0 0 / 0 1 0 0 0 / 0 0 1 0 0 / 0 0 0 1 0 / 0 0 0 0 1", new int[5][1]);
        kernel(1, "1x3: 1 -2 1", row(1, 2, 3), row(4, 5, 6), row(7, 8, 9));
        kernel(1, "1x5: 1 1000 1000000 1000000000 1000000000000", row(1000, 0, 0, 0),
                row(-1, 1000, 0, 0), row(0, -1, 1000, 0), row(0, 0, -1, 1000), row(0, 0, 0, -1));
    }

    private void kernelOfNone() {
        b.says(18, "; NONE likewise.");
        for (int t : Boundary.NO_TABLES) {
            b.leaves("TABLE " + t, -1, x -> x.kernel(t), rows(row(3)));
        }
    }

    private void back(String answer, int[]... rows) {
        b.tells("back", true, answer, x -> x.back(0), rows);
    }

    private void wayBack() {
        b.says(19, "The way back of a TURNING TABLE comes to the ANSWER: true");
        back("1x1: -1", row(-1));
        back("2x2: 0 1 / 1 0", row(0, 1), row(1, 0));
        back("2x2: 1 -1 / 0 1", row(1, 1), row(0, 1));
        back("2x2: -3 2 / 5 -3", row(3, 2), row(5, 3));
        back("3x3: 0 0 1 / 1 0 0 / 0 1 0", row(0, 1, 0), row(0, 0, 1), row(1, 0, 0));
        back("3x3: -24 18 5 / 20 -15 -4 / -5 4 1", row(1, 2, 3), row(0, 1, 4), row(5, 6, 0));
        back("5x5: 1 0 0 0 0 / 1000 1 0 0 0 / 1000000 1000 1 0 0 / 1000000000 1000000 1000 1 0"
                + " / 1000000000000 1000000000 1000000 1000 1", Boundary.steps(5, 1, -1000));
        back("5x5: -1 0 0 0 0 / -1000 -1 0 0 0 / -1000000 -1000 -1 0 0"
                + " / -1000000000 -1000000 -1000 -1 0"
                + " / -1000000000000 -1000000000 -1000000 -1000 -1", Boundary.steps(5, -1, 1000));
    }

    private void noBack(int[]... rows) {
        b.leaves("back of " + java.util.Arrays.deepToString(rows), false, x -> x.back(0), rows);
    }

    private void noWayBack() {
        b.says(19, "; false when it is none.");
        noBack(row(0));
        noBack(row(2));
        noBack(row(-2));
        noBack(row(1, 2), row(2, 4));
        noBack(row(1, 2), row(3, 4));
        noBack(row(3, 4), row(1, 2));
        noBack(row(1, 0), null);
        noBack(row(1, 0));
        noBack(row(-1), row(1));
        noBack(row(0, 1, 0), row(1, 0, 0));
        noBack(row(0, 1), row(1, 0), row(0, 0));
        noBack(Boundary.square(5, 1, 1));
        for (int t : Boundary.NO_TABLES) {
            b.leaves("TABLE " + t, false, x -> x.back(t), rows(row(1)));
        }
    }

    private void wayBackOfOtherKinds() {
        b.says(19, "(Of KINDS 3 and 4, too, if their WORTH is 1.)");
        back("1x1: 1", row(1));
        back("2x2: 1 0 / 0 1", row(1, 0), row(0, 1));
        back("5x5: 1 0 0 0 0 / 0 1 0 0 0 / 0 0 1 0 0 / 0 0 0 1 0 / 0 0 0 0 1", Boundary.square(5, 1, 0));
        noBack(row(1, 0), row(0, 2));
        noBack(row(1, 1), row(0, 2));
        noBack(row(0, 0), row(0, 0));
        noBack(row(0, 1), row(0, 0));
        noBack(row(1, 0), row(0, 1), row(0, 0));
        noBack(row(1, 0, 0), row(0, 1, 0));
    }
}

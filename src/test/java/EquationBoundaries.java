/** Promises 20 to 22: solve, reach and order. */
final class EquationBoundaries {
    private final Boundary b;

    EquationBoundaries(Boundary b) {
        this.b = b;
    }

    void all() {
        solve();
        solved();
        noX();
        solveOfNone();
        missingRows();
        reach();
        reachBelowZero();
        reachOfRankZero();
        notReached();
        reachOfNone();
        order();
        leastOrder();
        noOrder();
        orderOfNone();
    }

    private static int[][] rows(int[]... rows) {
        return Boundary.rows(rows);
    }

    private static int[] row(int... numbers) {
        return Boundary.row(numbers);
    }

    private interface Asking {
        int ask(LatticeBench x, int t, int u, int i);
    }

    private void noSuchOnes(Asking asking) {
        int[][] one = rows(row(1, 2), row(3, 4));
        for (int t : Boundary.NO_TABLES) {
            b.leaves("t = " + t, -1, x -> asking.ask(x, t, 0, 0), one);
            b.leaves("u = " + t, -1, x -> asking.ask(x, 0, t, 0), one);
            b.leaves("both " + t, -1, x -> asking.ask(x, t, t, 0), one);
        }
        for (int i : new int[] {-1, 5, 6, Integer.MIN_VALUE, Integer.MAX_VALUE}) {
            b.leaves("row " + i + " of 5", -1, x -> asking.ask(x, 0, 1, i), one, new int[5][2]);
        }
        b.leaves("row 2 of 2, where t has more", -1, x -> asking.ask(x, 1, 0, 2), one, new int[5][2]);
        b.leaves("row 1 of 1", -1, x -> asking.ask(x, 0, 1, 1), one, new int[1][2]);
    }

    private void otherColumns(Asking asking) {
        int[][] one = rows(row(1, 2), row(3, 4));
        b.leaves("more columns", -1, x -> asking.ask(x, 0, 1, 0), one, rows(row(1, 2, 0)));
        b.leaves("less columns", -1, x -> asking.ask(x, 0, 1, 0), one, rows(row(1)));
        b.leaves("as many rows, less columns", -1, x -> asking.ask(x, 0, 1, 0), one,
                rows(row(1), row(2)));
        b.leaves("0s of other columns", -1, x -> asking.ask(x, 0, 1, 0), new int[2][5], new int[2][4]);
    }

    private void solve(String answer, int[][] t, int... asked) {
        b.tells("solve for " + java.util.Arrays.toString(asked), 1, answer, x -> x.solve(0, 1, 0),
                t, rows(asked));
    }

    private void solve() {
        b.says(20, "TABLE t SOLVED for row i of u comes to the ANSWER (one row): 1");
        solve("1x1: -3", rows(row(-2)), 6);
        solve("1x2: 2 -3", rows(row(2, 0), row(0, 3)), 4, -9);
        solve("1x2: 0 0", rows(row(2, 0), row(0, 3)), 0, 0);
        solve("1x5: 1000000000000000 1000000000000 1000000000 1000000 1000",
                Boundary.steps(5, 1, -1000), 0, 0, 0, 0, 1000);
        int[][] two = rows(row(1, 2), row(3, 4));
        b.tells("row 1 of itself", 1, "1x2: 0 1", x -> x.solve(0, 0, 1), two);
        b.tells("the last row of 5", 1, "1x2: 1 1", x -> x.solve(0, 1, 4), two,
                rows(null, null, null, null, row(4, 6)));
    }

    private void solved() {
        b.says(20, "SOLVED for a row b: of all rows x of whole numbers with which the rows of the TABLE "
                + "multiplied add up to b the one whose numbers in the columns of the LEADS of the "
                + "KERNEL's STAIR are from 0 up to less than these.");
        for (int k = -12; k <= 12; k++) {
            // 4 x + 6 y = 2 k, and the KERNEL's STAIR is 3 -2.
            int x = Math.floorMod(2 * k, 3);
            solve("1x2: " + x + " " + (2 * k - 4 * x) / 6, rows(row(4), row(6)), 2 * k);
            solve("1x3: 5 " + x + " " + (2 * k - 4 * x) / 6, rows(row(1, 0), row(0, 4), row(0, 6)),
                    5, 2 * k);
        }
        for (int k = -31; k <= 31; k++) {
            // 6 x + 10 y + 15 z = k, and the KERNEL's STAIR is 5 0 -2 / 0 3 -2.
            int x = Math.floorMod(k, 5);
            int y = Math.floorMod(k, 3);
            solve("1x3: " + x + " " + y + " " + (k - 6 * x - 10 * y) / 15,
                    rows(row(6), row(10), row(15)), k);
        }
        solve("1x2: 0 7", rows(row(1), row(1)), 7);
        solve("1x2: 0 -7", rows(row(0), row(1)), -7);
        solve("1x2: -7 0", rows(row(1), row(0)), -7);
        solve("1x5: 0 0 0 0 0", Boundary.square(5, 0, 0), 0, 0, 0, 0, 0);
        solve("1x5: 0 0 0 0 -1000", Boundary.square(5, 1, 1), -1000, -1000, -1000, -1000, -1000);
    }

    private void noX() {
        b.says(20, "; 0: there is no x");
        b.leaves("between the rows", 0, x -> x.solve(0, 1, 0), rows(row(4), row(6)), rows(row(3)));
        b.leaves("beside the rows", 0, x -> x.solve(0, 1, 0), rows(row(1, 2), row(2, 4)), rows(row(1, 1)));
        b.leaves("fractions only", 0, x -> x.solve(0, 1, 1), rows(row(2, 4)), rows(row(2, 4), row(1, 2)));
        b.leaves("of 0s", 0, x -> x.solve(0, 1, 0), rows(row(0, 0)), rows(row(0, 1)));
        b.leaves("the last column", 0, x -> x.solve(0, 1, 0), Boundary.square(5, 1, 1),
                rows(row(1, 1, 1, 1, 2)));
    }

    private void solveOfNone() {
        b.says(20, "; NONE: no such ones");
        noSuchOnes((x, t, u, i) -> x.solve(t, u, i));
        b.says(20, ", or not of the same columns.");
        otherColumns((x, t, u, i) -> x.solve(t, u, i));
    }

    private void missingRows() {
        int[][] t = rows(row(4, 0), null, row(0, 6));
        int[][] u = rows(row(1, 1), null);
        b.says(20, "(rows that are asked are 0 then)");
        b.tells("solve for a missing LEAF", 1, "1x3: 0 0 0", x -> x.solve(0, 1, 1), t, u);
        b.tells("solve of one for it", 1, "1x3: 0 0 0", x -> x.solve(0, 0, 1), t);
        b.says(21, "(rows that are asked are 0 then)");
        b.tells("reach of a missing LEAF", 1, "1x2: 0 0", x -> x.reach(0, 1, 1), t, u);
        b.says(22, "(rows that are asked are 0 then)");
        b.tells("order of a missing LEAF", 1, "1x1: 1", x -> x.order(0, 1, 1), t, u);
    }

    private void reach(String answer, int[][] t, int... asked) {
        b.tells("reach of " + java.util.Arrays.toString(asked), 1, answer, x -> x.reach(0, 1, 0),
                t, rows(asked));
    }

    private void reach() {
        b.says(21, "Whether row i of u is in the LATTICE of t: 1, and the multiples of the rows of its "
                + "STAIR come to the ANSWER (one row");
        reach("1x1: 3", rows(row(4), row(6)), 6);
        reach("1x1: 0", rows(row(4), row(6)), 0);
        reach("1x2: 2 1", rows(row(2, 4), row(6, 8)), 4, 4);
        reach("1x1: 1000", rows(row(0, 0, 1), row(0, 0, 1)), 0, 0, 1000);
        reach("1x3: 1 1 1", rows(row(0, 0, 5), row(2, 1, 1), row(0, 3, 2)), 2, 4, 8);
        reach("1x5: 1 2 3 4 5", Boundary.square(5, 1, 0), 1, 2, 3, 4, 5);
        b.tells("a row of itself", 1, "1x2: 1 1", x -> x.reach(0, 0, 0), rows(row(2, 4), row(2, 0)));
        b.tells("the last row of 5", 1, "1x1: 2", x -> x.reach(0, 1, 4), rows(row(1, 2)),
                rows(null, null, null, null, row(2, 4)));
    }

    private void reachBelowZero() {
        b.says(21, "LATTICE of a TABLE: all rows that are sums of whole multiples (below 0, too) of its "
                + "rows.");
        reach("1x1: -3", rows(row(4), row(6)), -6);
        reach("1x2: -1 1", rows(row(2, 1), row(0, 3)), -2, 2);
        reach("1x2: 1 -1", rows(row(2, 1), row(0, 3)), 2, -2);
        reach("1x2: -1000 1", rows(row(1, 1), row(0, 2)), -1000, -998);
        reach("1x2: -1 0", rows(row(2, 1), row(0, 3)), -2, -1);
    }

    private void reachOfRankZero() {
        b.says(21, "; no rows, if the RANK is 0)");
        reach("0x0:", rows(row(0)), 0);
        reach("0x0:", Boundary.square(5, 0, 0), 0, 0, 0, 0, 0);
        reach("0x0:", rows(row(0, 0), null), 0, 0);
        b.leaves("not reached", 0, x -> x.reach(0, 1, 0), rows(row(0, 0), null), rows(row(0, 1)));
    }

    private void notReached() {
        b.says(21, "; 0; NONE likewise.");
        b.leaves("between the rows", 0, x -> x.reach(0, 1, 0), rows(row(4), row(6)), rows(row(3)));
        b.leaves("less than the LEAD", 0, x -> x.reach(0, 1, 0), rows(row(4), row(6)), rows(row(1)));
        b.leaves("above 0, less than it", 0, x -> x.reach(0, 1, 0), rows(row(4), row(6)), rows(row(-1)));
        b.leaves("beside the rows", 0, x -> x.reach(0, 1, 1), rows(row(1, 2)), rows(row(1, 2), row(1, 1)));
        b.leaves("the last column", 0, x -> x.reach(0, 1, 0), Boundary.square(5, 1, 1),
                rows(row(1, 1, 1, 1, 2)));
        b.leaves("the first column", 0, x -> x.reach(0, 1, 0), rows(row(0, 1)), rows(row(1, 1)));
    }

    private void reachOfNone() {
        b.says(21, "NONE likewise.");
        noSuchOnes((x, t, u, i) -> x.reach(t, u, i));
        otherColumns((x, t, u, i) -> x.reach(t, u, i));
    }

    private void order(String order, int[][] t, int... asked) {
        b.tells("order of " + java.util.Arrays.toString(asked), 1, "1x1: " + order,
                x -> x.order(0, 1, 0), t, rows(asked));
    }

    private void order() {
        b.says(22, "ORDER of row i of u comes to the ANSWER (1 by 1): 1");
        order("2", rows(row(4), row(6)), 3);
        order("4", rows(row(2, 4), row(6, 8)), 4, 1);
        order("1000000000000000", Boundary.steps(5, 1000, 1), 0, 0, 0, 0, 1);
        order("1000", Boundary.steps(5, 1000, 1), 1, 0, 0, 0, 0);
        b.tells("a row of itself", 1, "1x1: 1", x -> x.order(0, 0, 1), rows(row(2, 4), row(6, 8)));
        b.tells("the last row of 5", 1, "1x1: 3", x -> x.order(0, 1, 4), rows(row(3, 3)),
                rows(null, null, null, null, row(1, 1)));
    }

    private void leastOrder() {
        b.says(22, "ORDER of a row: the least k above 0 with k times it in A.");
        order("1", rows(row(4), row(6)), 2);
        order("1", rows(row(4), row(6)), -2);
        order("2", rows(row(4), row(6)), -1);
        order("1", rows(row(4), row(6)), 0);
        order("1", rows(row(0)), 0);
        order("1", Boundary.square(5, 0, 0), 0, 0, 0, 0, 0);
        order("12", rows(row(12, 0), row(0, 12)), 5, 7);
        order("6", rows(row(12, 0), row(0, 12)), 2, 4);
        order("6", rows(row(4, 0), row(0, 6)), 2, 1);
        order("12", rows(row(4, 0), row(0, 6)), 1, 1);
        order("3", rows(row(0, 6, 3)), 0, -2, -1);
        order("1000", rows(row(1000)), 999);
    }

    private void noOrder() {
        b.says(22, "; 0: there is none");
        b.leaves("in 0s", 0, x -> x.order(0, 1, 0), rows(row(0)), rows(row(1)));
        b.leaves("beside the rows", 0, x -> x.order(0, 1, 0), rows(row(2, 1)), rows(row(1, 0)));
        b.leaves("ahead of the LEAD", 0, x -> x.order(0, 1, 1), rows(row(0, 1)), rows(row(0, 2), row(1, 0)));
        b.leaves("behind the LEAD", 0, x -> x.order(0, 1, 0), rows(row(2, 0)), rows(row(4, 1)));
        b.leaves("the last column", 0, x -> x.order(0, 1, 0), Boundary.square(5, 1, 1),
                rows(row(1, 1, 1, 1, 2)));
    }

    private void orderOfNone() {
        b.says(22, "; NONE likewise.");
        noSuchOnes((x, t, u, i) -> x.order(t, u, i));
        otherColumns((x, t, u, i) -> x.order(t, u, i));
    }
}

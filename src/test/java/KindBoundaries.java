import java.util.Arrays;

/** Promise 6: what is told about a TABLE, and each edge of its KINDS. */
final class KindBoundaries {
    private final Boundary b;

    KindBoundaries(Boundary b) {
        this.b = b;
    }

    void all() {
        aboutATable();
        aboutOthers();
        rank();
        diagonal();
        diagonalByItsLeads();
        diagonalWithZeros();
        diagonalByDividing();
        stair();
        stairWithZeros();
        turning();
        squareAndOthers();
        firstThatFits();
    }

    private static int[][] rows(int[]... rows) {
        return Boundary.rows(rows);
    }

    private static int[] row(int... numbers) {
        return Boundary.row(numbers);
    }

    private void kind(int want, int[]... rows) {
        b.leaves("KIND of " + Arrays.deepToString(rows), want, x -> x.about(0, 3), rows);
    }

    private void aboutATable() {
        b.says(6, "Of a TABLE: 0 rows, 1 columns, 2 LEAVES that are there, 3 KIND, 4 RANK.");
        int[][] table = rows(row(1, 2, 3, 4), null, row(2, 4, 6, 8), null, row(0, 0, 0, 1));
        int[] want = {5, 4, 3, 0, 2};
        for (int what = 0; what < 5; what++) {
            int asked = what;
            b.leaves("about(0, " + what + ")", want[what], x -> x.about(0, asked), table);
        }
        LatticeBench x = Boundary.bench(table);
        b.same("LEAVES at first", x.about(0, 2), 3);
        x.tear(0, 2);
        b.same("LEAVES behind tear", x.about(0, 2), 2);
        x.leaf(0, 1, 0, 0, 0, 0, 0);
        b.same("LEAVES behind a leaf of 0s", x.about(0, 2), 3);
        x.table(0, 5, 4);
        b.same("LEAVES made anew", x.about(0, 2), 0);
        b.same("RANK made anew", x.about(0, 4), 0);
    }

    private void aboutOthers() {
        b.says(6, "NONE when there is none such, or for others.");
        for (int what = 0; what < 5; what++) {
            int asked = what;
            for (int t : Boundary.NO_TABLES) {
                b.leaves("about(" + t + ", " + what + ")", -1, x -> x.about(t, asked), rows(row(1, 2)));
            }
        }
        for (int what : new int[] {-1, 5, 6, Integer.MIN_VALUE, Integer.MAX_VALUE}) {
            b.leaves("about(0, " + what + ")", -1, x -> x.about(0, what), rows(row(1, 2)));
            b.leaves("about(9, " + what + ")", -1, x -> x.about(9, what), rows(row(1, 2)));
        }
    }

    private void rank(int want, int[]... rows) {
        b.leaves("RANK of " + Arrays.deepToString(rows), want, x -> x.about(0, 4), rows);
    }

    private void rank() {
        b.says(6, "RANK: how many rows it has.");
        rank(0, row(0));
        rank(0, row(0, 0), row(0, 0));
        rank(1, row(-1000));
        rank(1, row(2, 4), row(-3, -6));
        rank(1, row(0), row(3), row(5), row(0), row(7));
        rank(2, row(2, 4), row(-3, -5));
        rank(2, row(1, 2, 3), row(4, 5, 6), row(7, 8, 9));
        rank(1, row(1, 2, 3, 4, 5));
        rank(4, Boundary.square(5, 4, -1));
        rank(5, Boundary.square(5, 4, 1));
        rank(1, Boundary.square(5, 1, 1));
        rank(5, Boundary.square(5, -1000, 1000));
    }

    private void diagonal() {
        b.says(6, "4 DIAGONAL: a STAIR (of its own LATTICE, behind which there may be rows of 0s)");
        kind(4, row(7));
        kind(4, row(1000));
        kind(4, row(3, 0), row(0, 6));
        kind(4, row(3), row(0));
        kind(4, row(3), row(0), row(0), row(0), row(0));
        kind(4, row(2, 0), row(0, 4), row(0, 0));
        kind(4, row(2, 0), null);
        kind(1, row(-7));
        kind(0, row(0), row(3));
        kind(0, row(3), row(3));
        kind(0, row(2, 0), row(0, 0), row(0, 4));
        kind(0, row(2, 0, 0), null, row(0, 4, 0), row(0, 0, 0));
    }

    private void diagonalByItsLeads() {
        b.says(6, "whose row k has its LEAD in column k, nothing else but 0");
        kind(4, row(5, 0, 0));
        kind(3, row(0, 5, 0));
        kind(3, row(5, 1, 0));
        kind(3, row(5, 0, -1));
        kind(4, row(5, 0, 0), row(0, 5, 0));
        kind(3, row(5, 0, 0), row(0, 0, 5));
        kind(3, row(5, 0, 0), row(0, 5, 1));
        kind(3, row(5, 1, 0), row(0, 5, 0));
        kind(3, row(0, 5, 0), row(0, 0, 5));
        kind(4, row(5, 0, 0, 0, 0), row(0, 5, 0, 0, 0), row(0, 0, 5, 0, 0), row(0, 0, 0, 5, 0));
        kind(3, row(5, 0, 0, 0, 0), row(0, 5, 0, 0, 0), row(0, 0, 5, 0, 0), row(0, 0, 0, 5, 1));
        kind(3, row(5, 0, 0, 0, 0), row(0, 5, 0, 0, 0), row(0, 0, 5, 0, 0), row(0, 0, 0, 0, 5));
    }

    private void diagonalByDividing() {
        b.says(6, ", and each LEAD divides the next one");
        kind(4, row(5, 0), row(0, 5));
        kind(4, row(1, 0), row(0, 1000));
        kind(3, row(5, 0), row(0, 6));
        kind(3, row(4, 0), row(0, 2));
        kind(3, row(1000, 0), row(0, 1));
        kind(4, row(2, 0, 0), row(0, 2, 0), row(0, 0, 4));
        kind(3, row(2, 0, 0), row(0, 6, 0), row(0, 0, 4));
        kind(3, row(2, 0, 0), row(0, 3, 0), row(0, 0, 6));
        kind(4, row(1, 0, 0, 0, 0), row(0, 2, 0, 0, 0), row(0, 0, 4, 0, 0), row(0, 0, 0, 8, 0),
                row(0, 0, 0, 0, 16));
        kind(3, row(1, 0, 0, 0, 0), row(0, 2, 0, 0, 0), row(0, 0, 4, 0, 0), row(0, 0, 0, 8, 0),
                row(0, 0, 0, 0, 12));
        kind(3, row(2, 0, 0), row(0, 3, 0), row(0, 0, 0));
        kind(4, row(2, 0, 0), row(0, 4, 0), row(0, 0, 0));
    }

    private void diagonalWithZeros() {
        b.says(6, " (of a TABLE of 0s alone, too)");
        kind(4, row(0));
        kind(4, row(0, 0, 0, 0, 0));
        kind(4, row(0), row(0));
        kind(4, row(0, 0), row(0, 0));
        kind(4, null, row(0, 0, 0));
        LatticeBench x = new LatticeBench();
        for (int rows = 1; rows <= 5; rows++) {
            x.table(0, rows, 6 - rows);
            b.same("all missing, " + rows + " rows", x.about(0, 3), 4);
        }
    }

    private void stair() {
        b.says(6, "3 STAIR");
        kind(3, row(0, 1));
        kind(3, row(3, -1000));
        kind(3, row(2, 1), row(0, 2));
        kind(4, row(2, 0), row(0, 2));
        kind(1, row(2, 2), row(0, 2));
        kind(1, row(2, -1), row(0, 2));
        kind(3, row(2, 1, -9), row(0, 2, 9));
        kind(0, row(2, 3, -9), row(0, 2, 9));
        kind(0, row(-2, 1, 0), row(0, 2, 0));
        kind(0, row(2, 1, 0), row(0, -2, 0));
        kind(0, row(2, 0, 3), row(2, 0, 4));
        kind(0, row(0, 2, 0), row(2, 0, 0));
        kind(3, row(2, 7, 1, 1), row(0, 0, 2, 1), row(0, 0, 0, 2));
        kind(0, row(2, 7, 1, 2), row(0, 0, 2, 1), row(0, 0, 0, 2));
        kind(0, row(2, 7, 2, 1), row(0, 0, 2, 1), row(0, 0, 0, 2));
        kind(3, row(7, 6, 6, 6, 6), row(0, 7, 6, 6, 6), row(0, 0, 7, 6, 6), row(0, 0, 0, 7, 6),
                row(0, 0, 0, 0, 7));
    }

    private void stairWithZeros() {
        b.says(6, ", likewise with rows of 0s");
        kind(3, row(0, 3), row(0, 0));
        kind(3, row(2, 1), row(0, 2), row(0, 0), row(0, 0), row(0, 0));
        kind(3, row(2, 5), null);
        kind(1, row(0, 0), row(0, 3));
        kind(0, row(0, 0), row(0, 3), row(0, 0));
        kind(0, row(2, 1), row(0, 0), row(0, 2));
    }

    private void turning() {
        b.says(6, "2 TURNING: as many rows as columns, WORTH 1 or -1");
        kind(2, row(-1));
        kind(2, row(0, 1), row(1, 0));
        kind(2, row(1, 1), row(0, 1));
        kind(2, row(1, 0), row(0, -1));
        kind(2, row(3, 2), row(4, 3));
        kind(2, row(2, 3), row(3, 4));
        kind(1, row(3, 2), row(5, 4));
        kind(1, row(3, 2), row(4, 2));
        kind(1, row(1, 1), row(1, 1));
        kind(0, row(0, 1, 0), row(1, 0, 0));
        kind(0, row(0, 1), row(1, 0), row(0, 0));
        kind(2, Boundary.steps(5, 1, -1000));
        kind(2, Boundary.steps(5, -1, 1000));
        kind(1, Boundary.steps(5, 2, 1));
    }

    private void squareAndOthers() {
        b.says(6, "1 SQUARE; 0 others.");
        kind(1, row(-2));
        kind(1, row(0, 2), row(1, 0));
        kind(1, row(0, 0), row(1, 0));
        kind(1, row(1, 2), row(2, 4));
        kind(1, Boundary.square(5, 1, 1));
        kind(0, row(-2, 0));
        kind(0, row(-2), row(0));
        kind(0, row(1), row(1), row(1), row(1), row(1));
        kind(0, row(-1, 0, 0, 0, 0));
        kind(0, row(1, 2, 3, 4), row(1, 2, 3, 4), row(0, 0, 0, 0), row(5, 5, 5, 5), row(6, 6, 6, 7));
    }

    private void firstThatFits() {
        b.says(6, "KINDS of a TABLE, the first that fits:");
        kind(4, row(1));
        kind(4, row(1, 0), row(0, 1));
        kind(4, row(0, 0), row(0, 0));
        kind(4, Boundary.square(5, 1, 0));
        kind(4, Boundary.square(5, 3, 0));
        kind(3, row(2, 1), row(0, 2));
        kind(3, row(1, 7), row(0, 0));
        kind(2, row(-1, 0), row(0, -1));
    }
}

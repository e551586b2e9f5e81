import java.math.BigInteger;
import java.util.Random;

/** Random runs of calls on new objects, each answer held against the plain forms of Plain. */
public final class RandomRunsTest {
    private static final int RUNS = 1500;
    /** An object is used for so many calls at most; those that read the ANSWER count, too. */
    private static final int CALLS = 512;
    private static final int CALLS_OF_A_STEP = 20;

    private static final Due DUE = new Due("RandomRunsTest");

    private final Random random;
    private final LatticeBench bench = new LatticeBench();
    private final int[][][] tables = new int[12][][];
    private final boolean[][] leaves = new boolean[12][];
    private String told = "none";
    private String read = "none";
    private int calls = 0;
    private final int run;

    private RandomRunsTest(int run) {
        this.run = run;
        random = new Random(run * 7919L + 1);
    }

    public static void main(String[] args) {
        for (int run = 0; run < RUNS; run++) {
            RandomRunsTest test = new RandomRunsTest(run);
            for (int t = 0; t < 4; t++) {
                test.fill(t);
            }
            while (test.calls < CALLS - CALLS_OF_A_STEP) {
                test.step();
            }
        }
        DUE.end();
    }

    private void check(String call, Object got, Object want) {
        calls++;
        DUE.same("run " + run + ": " + call, got, want);
        boolean news = !told.equals(read);
        int most = Due.mostCallsToRead(told);
        if ((news || random.nextInt(8) == 0) && calls + most <= CALLS - CALLS_OF_A_STEP) {
            DUE.same("run " + run + ": ANSWER behind " + call, Due.told(bench), told);
            calls += most;
            read = told;
        }
    }

    private void tell(BigInteger[][] rows, int columns) {
        told = Due.text(rows, rows.length == 0 ? 0 : columns);
    }

    private void tellRow(BigInteger[] row) {
        tell(row.length == 0 ? new BigInteger[0][] : new BigInteger[][] {row}, row.length);
    }

    private void tellOne(BigInteger number) {
        tell(new BigInteger[][] {{number}}, 1);
    }

    /** Now and then a number that no table can have. */
    private int pick() {
        return random.nextInt(40) == 0 ? new int[] {-1, 12, Integer.MIN_VALUE, Integer.MAX_VALUE}[
                random.nextInt(4)] : random.nextInt(random.nextInt(3) == 0 ? 12 : 4);
    }

    private int pickRow() {
        return random.nextInt(6) - random.nextInt(2) * random.nextInt(2);
    }

    private int number() {
        switch (run % 5) {
            case 0:
                return random.nextInt(7) - 3;
            case 1:
                return random.nextInt(41) - 20;
            case 2:
                return random.nextInt(2001) - 1000;
            case 3:
                return random.nextInt(3) == 0 ? (random.nextInt(167) - 83) * 12 : 0;
            default:
                return random.nextInt(30) == 0 ? random.nextInt(2100) - 1050 : random.nextInt(5) - 2;
        }
    }

    private int[][] at(int t) {
        return t >= 0 && t < 12 ? tables[t] : null;
    }

    private static BigInteger[][] big(int[][] rows) {
        BigInteger[][] out = new BigInteger[rows.length][rows[0].length];
        for (int i = 0; i < rows.length; i++) {
            for (int j = 0; j < rows[i].length; j++) {
                out[i][j] = BigInteger.valueOf(rows[i][j]);
            }
        }
        return out;
    }

    private boolean alike(int a, int b) {
        return at(a) != null && at(b) != null && at(a)[0].length == at(b)[0].length;
    }

    private boolean asks(int t, int u, int i) {
        return alike(t, u) && i >= 0 && i < at(u).length;
    }

    private boolean canBe(int[][] rows) {
        for (int[] row : rows) {
            for (int number : row) {
                if (Math.abs(number) > 1000) {
                    return false;
                }
            }
        }
        return true;
    }

    private boolean keep(int to, int[][] rows) {
        if (to < 0 || to >= 12 || !canBe(rows)) {
            return false;
        }
        tables[to] = rows;
        leaves[to] = new boolean[rows.length];
        java.util.Arrays.fill(leaves[to], true);
        return true;
    }

    private int there(int t) {
        int found = 0;
        for (boolean leaf : leaves[t]) {
            found += leaf ? 1 : 0;
        }
        return found;
    }

    private void step() {
        int kind = random.nextInt(34);
        if (kind < 4) {
            fill(pick());
        } else if (kind < 9) {
            tableCalls(kind);
        } else if (kind < 14) {
            madeCalls(kind);
        } else if (kind < 20) {
            formCalls(kind);
        } else if (kind < 25) {
            equationCalls(kind);
        } else {
            latticeCalls(kind);
        }
    }

    private void fill(int t) {
        int rows = random.nextInt(8) == 0 ? random.nextInt(8) - 1 : 1 + random.nextInt(5);
        int columns = random.nextInt(8) == 0 ? random.nextInt(8) - 1
                : random.nextInt(4) == 0 ? 1 + random.nextInt(5) : 1 + run % 7 % 5;
        boolean can = t >= 0 && t < 12 && rows >= 1 && rows <= 5 && columns >= 1 && columns <= 5;
        if (can) {
            tables[t] = new int[rows][columns];
            leaves[t] = new boolean[rows];
        }
        check("table(" + t + ", " + rows + ", " + columns + ")", bench.table(t, rows, columns), can);
        for (int i = 0; can && i < rows; i++) {
            if (random.nextInt(9) > 0) {
                putLeaf(t, i);
            }
        }
    }

    private void putLeaf(int t, int i) {
        int[] n = {number(), number(), number(), number(), number()};
        boolean can = at(t) != null && i >= 0 && i < at(t).length;
        for (int j = 0; can && j < at(t)[0].length; j++) {
            can = Math.abs(n[j]) <= 1000;
        }
        if (can) {
            tables[t][i] = java.util.Arrays.copyOf(n, tables[t][0].length);
            leaves[t][i] = true;
        }
        check("leaf(" + t + ", " + i + ", ..)", bench.leaf(t, i, n[0], n[1], n[2], n[3], n[4]), can);
    }

    private void tableCalls(int kind) {
        int t = pick();
        int i = pickRow();
        int[][] rows = at(t);
        boolean has = rows != null && i >= 0 && i < rows.length;
        if (kind == 4) {
            putLeaf(t, i);
        } else if (kind == 5 && random.nextInt(3) == 0) {
            boolean was = has && leaves[t][i];
            if (was) {
                leaves[t][i] = false;
                rows[i] = new int[rows[i].length];
            }
            check("tear", bench.tear(t, i), was);
        } else if (kind == 6) {
            int j = pickRow();
            int want = has && j >= 0 && j < rows[0].length ? rows[i][j] : -10000;
            check("get(" + t + ", " + i + ", " + j + ")", bench.get(t, i, j), want);
        } else if (kind == 7) {
            int what = random.nextInt(7) - 1;
            int want = -1;
            if (rows != null && what >= 0 && what <= 4) {
                BigInteger[][] m = big(rows);
                int columns = rows[0].length;
                want = what == 0 ? rows.length : what == 1 ? columns : what == 2 ? there(t)
                        : what == 3 ? Plain.kind(m, columns) : Plain.rank(m, columns);
            }
            check("about(" + t + ", " + what + ")", bench.about(t, what), want);
        } else if (kind == 8) {
            int found = 0;
            int all = 0;
            for (int k = 0; k < 12; k++) {
                found += tables[k] != null ? 1 : 0;
                all += tables[k] != null ? there(k) : 0;
            }
            check("count(0)", bench.count(0), found);
            check("count(1)", bench.count(1), all);
            check("count(2)", bench.count(2), -1);
        }
    }

    private void madeCalls(int kind) {
        int a = pick();
        int b = pick();
        int to = pick();
        int[][] x = at(a);
        int[][] y = at(b);
        if (kind <= 10) {
            boolean less = kind == 10;
            boolean can = alike(a, b) && x.length == y.length;
            int[][] sum = can ? new int[x.length][x[0].length] : null;
            for (int i = 0; can && i < x.length; i++) {
                for (int j = 0; j < x[0].length; j++) {
                    sum[i][j] = less ? x[i][j] - y[i][j] : x[i][j] + y[i][j];
                }
            }
            check("add(" + a + ", " + b + ", " + less + ", " + to + ")",
                    bench.add(a, b, less, to), can && keep(to, sum));
        } else if (kind == 11) {
            boolean can = x != null && y != null && x[0].length == y.length;
            int[][] product = can ? new int[x.length][y[0].length] : null;
            for (int i = 0; can && i < x.length; i++) {
                for (int j = 0; j < y[0].length; j++) {
                    for (int k = 0; k < y.length; k++) {
                        product[i][j] += x[i][k] * y[k][j];
                    }
                }
            }
            check("times(" + a + ", " + b + ", " + to + ")",
                    bench.times(a, b, to), can && keep(to, product));
        } else if (kind == 12) {
            int[][] turned = x == null ? null : new int[x[0].length][x.length];
            for (int i = 0; x != null && i < x.length; i++) {
                for (int j = 0; j < x[0].length; j++) {
                    turned[j][i] = x[i][j];
                }
            }
            check("turn(" + a + ", " + to + ")", bench.turn(a, to), x != null && keep(to, turned));
        } else {
            boolean can = alike(a, b);
            if (can) {
                tell(Plain.over(big(x), big(y)), x[0].length);
            }
            check("over(" + a + ", " + b + ")", bench.over(a, b), can);
        }
    }

    private void formCalls(int kind) {
        int t = pick();
        int[][] rows = at(t);
        BigInteger[][] m = rows == null ? null : big(rows);
        int columns = rows == null ? 0 : rows[0].length;
        boolean square = rows != null && rows.length == columns;
        if (kind == 14) {
            if (square) {
                tellOne(Plain.worth(m));
            }
            check("worth(" + t + ")", bench.worth(t), square ? Plain.worth(m).signum() : -2);
        } else if (kind == 15) {
            int want = -1;
            if (rows != null) {
                BigInteger[][] stair = Plain.stair(m, columns);
                tell(stair, columns);
                want = stair.length;
            }
            check("stair(" + t + ")", bench.stair(t), want);
        } else if (kind == 16) {
            int want = -1;
            if (rows != null) {
                BigInteger[] sizes = Plain.sizes(m, columns);
                tellRow(sizes);
                want = sizes.length;
            }
            check("sizes(" + t + ")", bench.sizes(t), want);
        } else if (kind == 17) {
            int want = -1;
            if (rows != null) {
                BigInteger[][] kernel = Plain.kernel(m, columns);
                tell(kernel, rows.length);
                want = kernel.length;
            }
            check("kernel(" + t + ")", bench.kernel(t), want);
        } else if (kind == 18) {
            boolean can = square && Plain.worth(m).abs().equals(BigInteger.ONE);
            if (can) {
                BigInteger[][] back = new BigInteger[columns][columns];
                for (int i = 0; i < columns; i++) {
                    for (int j = 0; j < columns; j++) {
                        back[i][j] = Plain.worth(Plain.without(m, j, i)).multiply(Plain.worth(m))
                                .multiply(BigInteger.valueOf((i + j) % 2 == 0 ? 1 : -1));
                    }
                }
                tell(back, columns);
            }
            check("back(" + t + ")", bench.back(t), can);
        } else {
            BigInteger[][] dual = square ? Plain.dual(m) : null;
            if (dual != null) {
                tell(dual, columns);
            }
            check("dual(" + t + ")", bench.dual(t),
                    rows == null ? -1 : dual == null ? 0 : dual.length);
        }
    }

    private void equationCalls(int kind) {
        int t = pick();
        int u = pick();
        int i = pickRow();
        String words = "(" + t + ", " + u + ", " + i + ")";
        boolean can = asks(t, u, i);
        BigInteger[][] m = can ? big(at(t)) : null;
        BigInteger[] row = can ? big(at(u))[i] : null;
        int columns = can ? row.length : 0;
        if (kind <= 21) {
            BigInteger[] x = can ? Plain.solved(m, row, columns) : null;
            if (x != null) {
                tellRow(x);
            }
            check("solve" + words, bench.solve(t, u, i), !can ? -1 : x == null ? 0 : 1);
        } else if (kind == 22) {
            BigInteger[] x = can && Plain.reaches(m, row, columns)
                    ? Plain.multiples(Plain.stair(m, columns), row) : null;
            if (x != null) {
                tellRow(x);
            }
            check("reach" + words, bench.reach(t, u, i), !can ? -1 : x == null ? 0 : 1);
        } else {
            BigInteger order = can ? Plain.order(m, row, columns) : null;
            if (order != null) {
                tellOne(order);
            }
            check("order" + words, bench.order(t, u, i), !can ? -1 : order == null ? 0 : 1);
        }
    }

    private void latticeCalls(int kind) {
        int a = pick();
        int b = pick();
        if (random.nextInt(3) == 0) {
            makeWithin(a, b);
        }
        String words = "(" + a + ", " + b + ")";
        boolean can = alike(a, b);
        BigInteger[][] x = can ? big(at(a)) : null;
        BigInteger[][] y = can ? big(at(b)) : null;
        int columns = can ? x[0].length : 0;
        if (kind <= 27) {
            BigInteger[][] want = !can ? null : kind == 25
                    ? Plain.stair(Plain.over(x, y), columns) : Plain.both(x, y, columns);
            if (can) {
                tell(want, columns);
            }
            int got = kind == 25 ? bench.join(a, b) : bench.both(a, b);
            check((kind == 25 ? "join" : "both") + words, got, can ? want.length : -1);
            return;
        }
        boolean within = can && Plain.within(x, y, columns);
        int free = can ? Plain.rank(y, columns) - Plain.rank(x, columns) : 0;
        if (kind <= 28) {
            check("within" + words, bench.within(a, b), !can ? -1 : within ? 1 : 0);
        } else if (kind <= 30) {
            if (within && free == 0) {
                tellOne(Plain.index(x, y, columns));
            }
            check("index" + words, bench.index(a, b), !can ? -1 : !within ? 0 : free > 0 ? -2 : 1);
        } else {
            BigInteger[] sizes = within ? Plain.quotient(x, y, columns) : null;
            if (within) {
                tellRow(sizes);
            }
            check("quotient" + words, bench.quotient(a, b),
                    !can ? -1 : !within ? -2 : 10 * free + sizes.length);
        }
    }

    /** Table a gets whole multiples of the rows of b, so that it is within it. */
    private void makeWithin(int a, int b) {
        int[][] y = at(b);
        if (y == null || a < 0 || a >= 12) {
            return;
        }
        int[][] rows = new int[1 + random.nextInt(5)][y[0].length];
        for (int i = 0; i < rows.length; i++) {
            for (int k = 0; k < y.length; k++) {
                int often = random.nextInt(7) - 3;
                for (int j = 0; j < y[0].length; j++) {
                    rows[i][j] += often * y[k][j];
                }
            }
        }
        if (keep(a, rows)) {
            Due.fill(bench, a, rows);
            calls += 1 + rows.length;
        }
    }
}

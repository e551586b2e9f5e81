import java.math.BigInteger;
import java.util.ArrayList;
import java.util.List;

/** The document's terms in their plainest form, over BigInteger: what the bench is held against. */
final class Plain {
    static final BigInteger ZERO = BigInteger.ZERO;
    static final BigInteger ONE = BigInteger.ONE;

    private Plain() {
    }

    static BigInteger worth(BigInteger[][] m) {
        int n = m.length;
        if (n == 0) {
            return ONE;
        }
        BigInteger sum = ZERO;
        for (int j = 0; j < n; j++) {
            if (m[0][j].signum() == 0) {
                continue;
            }
            BigInteger part = m[0][j].multiply(worth(without(m, 0, j)));
            sum = j % 2 == 0 ? sum.add(part) : sum.subtract(part);
        }
        return sum;
    }

    static BigInteger[][] without(BigInteger[][] m, int row, int column) {
        int n = m.length;
        BigInteger[][] out = new BigInteger[n - 1][n - 1];
        for (int i = 0; i < n - 1; i++) {
            for (int j = 0; j < n - 1; j++) {
                out[i][j] = m[i < row ? i : i + 1][j < column ? j : j + 1];
            }
        }
        return out;
    }

    /** G(k): the greatest common divisor of all k by k minors; 1 for k = 0. */
    static BigInteger shared(BigInteger[][] m, int columns, int k) {
        BigInteger g = ZERO;
        for (int rows = 0; rows < 1 << m.length; rows++) {
            if (Integer.bitCount(rows) != k) {
                continue;
            }
            for (int cols = 0; cols < 1 << columns; cols++) {
                if (Integer.bitCount(cols) == k) {
                    g = g.gcd(worth(chosen(m, rows, cols, k)));
                }
            }
            if (g.equals(ONE)) {
                return g;
            }
        }
        return g;
    }

    private static BigInteger[][] chosen(BigInteger[][] m, int rows, int cols, int k) {
        BigInteger[][] out = new BigInteger[k][k];
        int a = 0;
        for (int i = 0; i < m.length; i++) {
            if ((rows >> i & 1) == 0) {
                continue;
            }
            int b = 0;
            for (int j = 0; j < m[i].length; j++) {
                if ((cols >> j & 1) != 0) {
                    out[a][b++] = m[i][j];
                }
            }
            a++;
        }
        return out;
    }

    /** RANK by minors alone. */
    static int rank(BigInteger[][] m, int columns) {
        int r = 0;
        while (r < Math.min(m.length, columns) && shared(m, columns, r + 1).signum() != 0) {
            r++;
        }
        return r;
    }

    static BigInteger[] sizes(BigInteger[][] m, int columns) {
        int r = rank(m, columns);
        BigInteger[] out = new BigInteger[r];
        BigInteger before = ONE;
        for (int k = 1; k <= r; k++) {
            BigInteger g = shared(m, columns, k);
            out[k - 1] = g.divide(before);
            before = g;
        }
        return out;
    }

    static BigInteger[][] over(BigInteger[][] a, BigInteger[][] b) {
        BigInteger[][] out = new BigInteger[a.length + b.length][];
        System.arraycopy(a, 0, out, 0, a.length);
        System.arraycopy(b, 0, out, a.length, b.length);
        return out;
    }

    /** Whether a row is in the lattice: with it there, neither RANK nor G(RANK) may change. */
    static boolean reaches(BigInteger[][] m, BigInteger[] row, int columns) {
        BigInteger[][] more = over(m, new BigInteger[][] {row});
        int r = rank(m, columns);
        return rank(more, columns) == r
                && shared(more, columns, r).equals(shared(m, columns, r));
    }

    static boolean within(BigInteger[][] a, BigInteger[][] b, int columns) {
        for (BigInteger[] row : a) {
            if (!reaches(b, row, columns)) {
                return false;
            }
        }
        return true;
    }

    /** ORDER, or null: how much G(RANK) loses by the row. */
    static BigInteger order(BigInteger[][] m, BigInteger[] row, int columns) {
        BigInteger[][] more = over(m, new BigInteger[][] {row});
        int r = rank(m, columns);
        if (rank(more, columns) != r) {
            return null;
        }
        return shared(m, columns, r).divide(shared(more, columns, r));
    }

    /** STAIR, by dividing the rows by one another column by column, over the first columns alone. */
    static BigInteger[][] stair(BigInteger[][] m, int columns) {
        List<BigInteger[]> rows = new ArrayList<>();
        for (BigInteger[] row : m) {
            rows.add(row.clone());
        }
        int top = eliminate(rows, columns);
        return rows.subList(0, top).toArray(new BigInteger[0][]);
    }

    private static int eliminate(List<BigInteger[]> rows, int columns) {
        int top = 0;
        for (int c = 0; c < columns && top < rows.size(); c++) {
            while (true) {
                int best = -1;
                int filled = 0;
                for (int i = top; i < rows.size(); i++) {
                    BigInteger v = rows.get(i)[c];
                    if (v.signum() != 0) {
                        filled++;
                        if (best < 0 || v.abs().compareTo(rows.get(best)[c].abs()) < 0) {
                            best = i;
                        }
                    }
                }
                if (filled == 0) {
                    break;
                }
                BigInteger[] lead = rows.remove(best);
                rows.add(top, lead);
                for (int i = top + 1; i < rows.size(); i++) {
                    less(rows.get(i), lead, rows.get(i)[c].divide(lead[c]));
                }
                if (filled == 1) {
                    break;
                }
            }
            if (rows.get(top)[c].signum() == 0) {
                continue;
            }
            BigInteger[] lead = rows.get(top);
            if (lead[c].signum() < 0) {
                for (int j = 0; j < lead.length; j++) {
                    lead[j] = lead[j].negate();
                }
            }
            for (int i = 0; i < top; i++) {
                BigInteger v = rows.get(i)[c];
                less(rows.get(i), lead, v.subtract(v.mod(lead[c])).divide(lead[c]));
            }
            top++;
        }
        return top;
    }

    private static void less(BigInteger[] row, BigInteger[] other, BigInteger often) {
        for (int j = 0; j < row.length; j++) {
            row[j] = row[j].subtract(often.multiply(other[j]));
        }
    }

    /** The rows of a stair over the first columns, and the multiples that make all rows behind. */
    private static List<BigInteger[]> worked(BigInteger[][] m, int columns) {
        List<BigInteger[]> rows = new ArrayList<>();
        for (int i = 0; i < m.length; i++) {
            BigInteger[] row = new BigInteger[columns + m.length];
            for (int j = 0; j < row.length; j++) {
                row[j] = j < columns ? m[i][j] : j - columns == i ? ONE : ZERO;
            }
            rows.add(row);
        }
        eliminate(rows, columns);
        return rows;
    }

    static int lead(BigInteger[] row) {
        for (int j = 0; j < row.length; j++) {
            if (row[j].signum() != 0) {
                return j;
            }
        }
        return row.length;
    }

    static BigInteger[][] kernel(BigInteger[][] m, int columns) {
        List<BigInteger[]> found = new ArrayList<>();
        for (BigInteger[] row : worked(m, columns)) {
            if (lead(row) >= columns) {
                found.add(java.util.Arrays.copyOfRange(row, columns, row.length));
            }
        }
        return stair(found.toArray(new BigInteger[0][]), m.length);
    }

    /** Multiples of a stair's rows that make a row, or null. */
    static BigInteger[] multiples(BigInteger[][] stair, BigInteger[] row) {
        BigInteger[] rest = row.clone();
        BigInteger[] out = new BigInteger[stair.length];
        for (int k = 0; k < stair.length; k++) {
            int c = lead(stair[k]);
            out[k] = rest[c].divide(stair[k][c]);
            less(rest, stair[k], out[k]);
        }
        return lead(rest) == rest.length ? out : null;
    }

    /** SOLVED, or null. */
    static BigInteger[] solved(BigInteger[][] m, BigInteger[] b, int columns) {
        if (!reaches(m, b, columns)) {
            return null;
        }
        BigInteger[] rest = b.clone();
        BigInteger[] x = new BigInteger[m.length];
        java.util.Arrays.fill(x, ZERO);
        for (BigInteger[] row : worked(m, columns)) {
            int c = lead(row);
            if (c >= columns) {
                continue;
            }
            BigInteger q = rest[c].divide(row[c]);
            for (int j = 0; j < columns; j++) {
                rest[j] = rest[j].subtract(q.multiply(row[j]));
            }
            for (int j = 0; j < x.length; j++) {
                x[j] = x[j].add(q.multiply(row[columns + j]));
            }
        }
        for (BigInteger[] row : kernel(m, columns)) {
            int c = lead(row);
            less(x, row, x[c].subtract(x[c].mod(row[c])).divide(row[c]));
        }
        return x;
    }

    /** STAIR of all rows in both: from what makes rows of the one and of the other add up to 0. */
    static BigInteger[][] both(BigInteger[][] a, BigInteger[][] b, int columns) {
        BigInteger[][] sa = stair(a, columns);
        BigInteger[][] kernel = kernel(over(sa, stair(b, columns)), columns);
        BigInteger[][] out = new BigInteger[kernel.length][columns];
        for (int i = 0; i < kernel.length; i++) {
            for (int j = 0; j < columns; j++) {
                out[i][j] = ZERO;
                for (int k = 0; k < sa.length; k++) {
                    out[i][j] = out[i][j].add(kernel[i][k].multiply(sa[k][j]));
                }
            }
        }
        return stair(out, columns);
    }

    /** INDEX by G(RANK), for lattices in one another and of the same RANK. */
    static BigInteger index(BigInteger[][] a, BigInteger[][] b, int columns) {
        int r = rank(a, columns);
        return shared(a, columns, r).divide(shared(b, columns, r));
    }

    /** The SIZES of the QUOTIENT of b by a. */
    static BigInteger[] quotient(BigInteger[][] a, BigInteger[][] b, int columns) {
        BigInteger[][] sa = stair(a, columns);
        BigInteger[][] sb = stair(b, columns);
        BigInteger[][] c = new BigInteger[sa.length][];
        for (int i = 0; i < sa.length; i++) {
            c[i] = multiples(sb, sa[i]);
        }
        List<BigInteger> found = new ArrayList<>();
        for (BigInteger size : sizes(c, sb.length)) {
            if (!size.equals(ONE)) {
                found.add(size);
            }
        }
        return found.toArray(new BigInteger[0]);
    }

    /** D in row 0, and behind it the STAIR; null if the WORTH is 0. */
    static BigInteger[][] dual(BigInteger[][] m) {
        int n = m.length;
        BigInteger w = worth(m);
        if (w.signum() == 0) {
            return null;
        }
        BigInteger d = ONE;
        BigInteger[][] cofactors = new BigInteger[n][n];
        for (int i = 0; i < n; i++) {
            for (int j = 0; j < n; j++) {
                BigInteger minor = worth(without(m, i, j));
                cofactors[i][j] = (i + j) % 2 == 0 ? minor : minor.negate();
                BigInteger part = w.abs().divide(w.abs().gcd(minor));
                d = d.multiply(part).divide(d.gcd(part));
            }
        }
        for (int i = 0; i < n; i++) {
            for (int j = 0; j < n; j++) {
                cofactors[i][j] = cofactors[i][j].multiply(d).divide(w);
            }
        }
        BigInteger[] first = new BigInteger[n];
        java.util.Arrays.fill(first, ZERO);
        first[0] = d;
        return over(new BigInteger[][] {first}, stair(cofactors, n));
    }

    static int kind(BigInteger[][] m, int columns) {
        BigInteger[][] stair = stair(m, columns);
        boolean same = true;
        boolean diagonal = true;
        for (int i = 0; i < m.length; i++) {
            for (int j = 0; j < columns; j++) {
                BigInteger want = i < stair.length ? stair[i][j] : ZERO;
                same &= m[i][j].equals(want);
                diagonal &= (i == j && i < stair.length) == (want.signum() != 0);
            }
        }
        for (int k = 0; diagonal && k + 1 < stair.length; k++) {
            diagonal = stair[k + 1][k + 1].mod(stair[k][k]).signum() == 0;
        }
        if (same) {
            return diagonal ? 4 : 3;
        }
        if (m.length != columns) {
            return 0;
        }
        return worth(m).abs().equals(ONE) ? 2 : 1;
    }
}

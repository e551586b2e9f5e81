import java.io.IOException;

/**
 * Keeps the tests of single sentences: each is said as it stands in the document, under the
 * number of the promise that uses it, and what is asked next is asked for that sentence.
 */
final class Boundary {
    /** Numbers that no TABLE has; 7 stands for those that could be, but are none here. */
    static final int[] NO_TABLES = {-1, 12, Integer.MIN_VALUE, Integer.MAX_VALUE, 7};
    /** Numbers that TABLES never have. */
    static final int[] WRONG_NUMBERS = {-1, 12, Integer.MIN_VALUE, Integer.MAX_VALUE};

    private final Due due = new Due("BoundariesTest");
    private final Document document = new Document();
    private String sentence = "";
    private int asked = 1;
    private int sentences = 0;

    interface Call {
        Object on(LatticeBench bench);
    }

    Boundary() throws IOException {
    }

    /** The test of a sentence begins; it must stand under the promise, or in the terms. */
    void says(int promise, String words) {
        closeSentence();
        sentence = "promise " + promise + ", '" + words + "'";
        sentences++;
        asked = 0;
        due.same(sentence + " stands in the document", document.tick(promise, words), true);
    }

    void end() {
        closeSentence();
        due.same("sentences without a test", document.unsaid(), "");
        System.out.println(sentences + " sentences have a test");
        due.end();
    }

    private void closeSentence() {
        due.same("something is asked for " + sentence, asked > 0, true);
    }

    void same(String call, Object got, Object want) {
        asked++;
        due.same(sentence + ": " + call, got, want);
    }

    /** The call answers that, and leaves all TABLES and the ANSWER, or that there is no ANSWER. */
    void leaves(String call, Object want, Call asking, int[][]... tables) {
        for (boolean told : new boolean[] {false, true}) {
            LatticeBench x = told ? toldBench(tables) : bench(tables);
            String was = tables(x) + Due.told(x);
            same(call, asking.on(x), want);
            same("what was there behind " + call, tables(x) + Due.told(x), was);
        }
    }

    /** The call answers that, the ANSWER is that, whatever was told before; the TABLES stay. */
    void tells(String call, Object want, String answer, Call asking, int[][]... tables) {
        LatticeBench x = bench(tables);
        String was = tables(x);
        same(call, asking.on(x), want);
        same("ANSWER behind " + call, Due.told(x), answer);
        same("TABLES behind " + call, tables(x), was);
        LatticeBench y = bench(tables);
        work(y);
        same(call + " behind others", asking.on(y), want);
        same("ANSWER behind " + call + " behind others", Due.told(y), answer);
    }

    /** Calls whose numbers are many and long, so that nothing may be left of them for the next. */
    private static void work(LatticeBench x) {
        Due.fill(x, 8, square(5, 997, -1));
        Due.fill(x, 9, steps(5, 1, -1000));
        Due.fill(x, 10, steps(5, 999, 998));
        Due.fill(x, 11, square(5, 1000, -999));
        x.sizes(8);
        x.kernel(8);
        x.dual(11);
        x.join(8, 11);
        x.index(8, 9);
        x.quotient(8, 9);
        x.order(8, 11, 4);
        x.reach(9, 11, 4);
        x.both(8, 11);
        x.both(10, 11);
        x.solve(9, 11, 3);
        x.over(10, 11);
    }

    /** The call answers true, TABLE to becomes that without a missing LEAF; all else stays. */
    void makes(String call, int to, String numbers, Call asking, int[][]... tables) {
        LatticeBench x = toldBench(tables);
        String answer = Due.told(x);
        String[] was = eachTable(x);
        same(call, asking.on(x), true);
        String[] is = eachTable(x);
        for (int t = 0; t < is.length; t++) {
            same("TABLE " + t + " behind " + call, is[t], t == to ? numbers : was[t]);
        }
        same("ANSWER behind " + call, Due.told(x), answer);
    }

    /** TABLES 0, 1, 2 ..; null for none, and for a LEAF that is missing. */
    static LatticeBench bench(int[][]... tables) {
        LatticeBench x = new LatticeBench();
        for (int t = 0; t < tables.length; t++) {
            put(x, t, tables[t]);
        }
        return x;
    }

    /** The same, where the ANSWER is 7 0 -8 / 7 0 -8. */
    private static LatticeBench toldBench(int[][]... tables) {
        LatticeBench x = new LatticeBench();
        put(x, 0, rows(row(7, 0, -8)));
        x.over(0, 0);
        for (int t = 0; t < tables.length; t++) {
            put(x, t, tables[t]);
        }
        return x;
    }

    private static void put(LatticeBench x, int t, int[][] rows) {
        if (rows == null) {
            return;
        }
        int columns = 0;
        for (int[] row : rows) {
            columns = row == null ? columns : row.length;
        }
        x.table(t, rows.length, columns);
        for (int i = 0; i < rows.length; i++) {
            if (rows[i] != null) {
                int[] r = java.util.Arrays.copyOf(rows[i], 5);
                x.leaf(t, i, r[0], r[1], r[2], r[3], r[4]);
            }
        }
    }

    static int[][] rows(int[]... rows) {
        return rows;
    }

    static int[] row(int... numbers) {
        return numbers;
    }

    static int[][] square(int side, int onDiagonal, int elsewhere) {
        int[][] rows = new int[side][side];
        for (int i = 0; i < side; i++) {
            for (int j = 0; j < side; j++) {
                rows[i][j] = i == j ? onDiagonal : elsewhere;
            }
        }
        return rows;
    }

    /** A number on the diagonal, and another one left of it. */
    static int[][] steps(int side, int onDiagonal, int left) {
        int[][] rows = square(side, onDiagonal, 0);
        for (int i = 1; i < side; i++) {
            rows[i][i - 1] = left;
        }
        return rows;
    }

    /** All that can be asked of the TABLES, such as "0: 1x2, 1 there: 3 4; ". */
    static String tables(LatticeBench x) {
        StringBuilder text = new StringBuilder();
        String[] each = eachTable(x);
        for (int t = 0; t < each.length; t++) {
            text.append(each[t].isEmpty() ? "" : t + ": " + each[t] + "; ");
        }
        return text.toString();
    }

    private static String[] eachTable(LatticeBench x) {
        String[] each = new String[12];
        for (int t = 0; t < each.length; t++) {
            each[t] = x.about(t, 0) < 0 ? "" : table(x, t);
        }
        return each;
    }

    static String table(LatticeBench x, int t) {
        int rows = x.about(t, 0);
        int columns = x.about(t, 1);
        StringBuilder text = new StringBuilder();
        text.append(rows + "x" + columns + ", " + x.about(t, 2) + " there:");
        for (int i = 0; i < rows; i++) {
            text.append(i > 0 ? " /" : "");
            for (int j = 0; j < columns; j++) {
                text.append(" " + x.get(t, i, j));
            }
        }
        return text.toString();
    }
}

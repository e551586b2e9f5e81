/** Promises 1 to 5, 11 to 13 and 29, and what is said of every object: the TABLES. */
final class TableBoundaries {
    private static final int LEAST = Integer.MIN_VALUE;
    private static final int MOST = Integer.MAX_VALUE;
    private static final int[] WRONG_SIDES = {0, 6, -1, LEAST, MOST};
    private static final int[] WRONG_VALUES = {1001, -1001, LEAST, MOST};

    private final Boundary b;

    TableBoundaries(Boundary b) {
        this.b = b;
    }

    void all() {
        noTables();
        noAnswer();
        everyCallOfNoTable();
        sides();
        allMissing();
        noSuchNumber();
        sidesThatCannotBe();
        leafBecomes();
        behindTheColumns();
        noSuchLeaf();
        numbersOfALeaf();
        leafMissingAgain();
        whetherItWasThere();
        missingIsZeros();
        numberOfATable();
        noSuchNumberOfATable();
        sums();
        differences();
        addOfNone();
        addOfOtherSides();
        addThatCannotBe();
        products();
        timesRefused();
        turned();
        turnOfNone();
        noLeafOfToIsMissing();
        counts();
        countOfOthers();
        theLastCall();
    }

    private static int[][] rows(int[]... rows) {
        return Boundary.rows(rows);
    }

    private static int[] row(int... numbers) {
        return Boundary.row(numbers);
    }

    /** 1, 2, 3 .. in so many columns, but for one of them; 0s behind. */
    private static int[] counting(int columns, int at, int number) {
        int[] row = new int[5];
        for (int j = 0; j < columns; j++) {
            row[j] = j == at ? number : j + 1;
        }
        return row;
    }

    private static boolean leaf(LatticeBench x, int t, int i, int[] n) {
        return x.leaf(t, i, n[0], n[1], n[2], n[3], n[4]);
    }

    private void noTables() {
        b.says(1, "(none at first)");
        Boundary.bench(rows(row(1, 2)), rows(row(3))).stair(0);
        LatticeBench x = new LatticeBench();
        for (int t = 0; t < 12; t++) {
            for (int what = 0; what < 5; what++) {
                b.same("about(" + t + ", " + what + ")", x.about(t, what), -1);
            }
            b.same("get(" + t + ", 0, 0)", x.get(t, 0, 0), -10000);
        }
        b.same("count(0)", x.count(0), 0);
        b.same("count(1)", x.count(1), 0);
        b.says(1, "`NONE = -1`: There is none; it is refused.");
        b.same("NONE", LatticeBench.NONE, -1);
        b.same("of a TABLE that there is none", x.stair(0), LatticeBench.NONE);
    }

    private void noAnswer() {
        b.says(1, "no ANSWER.");
        LatticeBench x = new LatticeBench();
        b.same("rows", x.answer(0), -1);
        b.same("columns", x.answer(1), -1);
        b.same("sign", x.sign(0, 0), -2);
        b.same("bits", x.bits(0, 0, 0), 0);
        b.same("length", x.length(0, 0), -1);
    }

    private void everyCallOfNoTable() {
        b.says(1, "No TABLES; no ANSWER.");
        LatticeBench x = new LatticeBench();
        b.same("leaf", x.leaf(0, 0, 1, 1, 1, 1, 1), false);
        b.same("tear", x.tear(0, 0), false);
        b.same("add", x.add(0, 0, false, 0), false);
        b.same("times", x.times(0, 0, 0), false);
        b.same("turn", x.turn(0, 0), false);
        b.same("over", x.over(0, 0), false);
        b.same("worth", x.worth(0), -2);
        b.same("stair", x.stair(0), -1);
        b.same("sizes", x.sizes(0), -1);
        b.same("kernel", x.kernel(0), -1);
        b.same("back", x.back(0), false);
        b.same("solve", x.solve(0, 0, 0), -1);
        b.same("reach", x.reach(0, 0, 0), -1);
        b.same("order", x.order(0, 0, 0), -1);
        b.same("join", x.join(0, 0), -1);
        b.same("both", x.both(0, 0), -1);
        b.same("within", x.within(0, 0), -1);
        b.same("index", x.index(0, 0), -1);
        b.same("quotient", x.quotient(0, 0), -1);
        b.same("dual", x.dual(0), -1);
        b.same("TABLES behind all these", x.count(0), 0);
        b.same("ANSWER behind all these", Due.told(x), "none");
    }

    private void sides() {
        b.says(2, "TABLES 0 .. 11 (none at first) have 1 to 5 rows (LEAVES) and 1 to 5 columns");
        for (int t = 0; t < 12; t++) {
            LatticeBench x = new LatticeBench();
            for (int n = 0; n < 25; n++) {
                int rows = 1 + n / 5;
                int columns = 1 + n % 5;
                b.same("table(" + t + ", " + rows + ", " + columns + ")",
                        x.table(t, rows, columns), true);
                b.same("rows", x.about(t, 0), rows);
                b.same("columns", x.about(t, 1), columns);
                b.same("no other TABLE", x.count(0), 1);
            }
        }
    }

    private void allMissing() {
        b.says(2, "TABLE t has so many rows and columns, all LEAVES missing: true");
        LatticeBench x = Boundary.bench(rows(row(1, 2), row(3, 4)), rows(row(5, 6)));
        x.over(0, 1);
        b.same("the same sides anew", x.table(0, 2, 2), true);
        b.same("all is missing", Boundary.table(x, 0), "2x2, 0 there: 0 0 / 0 0");
        b.same("the other TABLE stays", Boundary.table(x, 1), "1x2, 1 there: 5 6");
        b.same("ANSWER stays", Due.told(x), "3x2: 1 2 / 3 4 / 5 6");
        leaf(x, 0, 1, row(7, 8, 0, 0, 0));
        b.same("less rows", x.table(0, 1, 5), true);
        b.same("all is missing", Boundary.table(x, 0), "1x5, 0 there: 0 0 0 0 0");
        b.same("more rows", x.table(0, 5, 2), true);
        b.same("what was there ahead is gone", Boundary.table(x, 0),
                "5x2, 0 there: 0 0 / 0 0 / 0 0 / 0 0 / 0 0");
    }

    private void noSuchNumber() {
        b.says(2, "false when there is no such number");
        for (int t : Boundary.WRONG_NUMBERS) {
            b.leaves("table(" + t + ", 2, 2)", false, x -> x.table(t, 2, 2),
                    rows(row(1, 2), row(3, 4)));
        }
    }

    private void sidesThatCannotBe() {
        b.says(2, ", or it can't be.");
        for (int side : WRONG_SIDES) {
            b.leaves("table(0, " + side + ", 2)", false, x -> x.table(0, side, 2), rows(row(1, 2)));
            b.leaves("table(0, 2, " + side + ")", false, x -> x.table(0, 2, side), rows(row(1, 2)));
            b.leaves("table(1, " + side + ", 1)", false, x -> x.table(1, side, 1), rows(row(1, 2)));
            b.leaves("table(1, 1, " + side + ")", false, x -> x.table(1, 1, side), rows(row(1, 2)));
            b.leaves("table(11, ..) with both", false, x -> x.table(11, side, side), rows(row(1)));
        }
    }

    private void leafBecomes() {
        b.says(3, "LEAF i of a TABLE becomes that: its first columns' numbers a, b, c, d, e");
        for (int columns = 1; columns <= 5; columns++) {
            for (int i = 0; i < 5; i++) {
                LatticeBench x = new LatticeBench();
                x.table(11, 5, columns);
                b.same("a missing one", x.leaf(11, i, 11, 12, 13, 14, 15), true);
                b.same("it is there", x.about(11, 2), 1);
                b.same("one that was there", x.leaf(11, i, -1, -2, -3, -4, -5), true);
                b.same("it is there", x.about(11, 2), 1);
                for (int k = 0; k < 5 * columns; k++) {
                    int want = k / columns == i ? -1 - k % columns : 0;
                    b.same("number", x.get(11, k / columns, k % columns), want);
                }
            }
        }
        LatticeBench x = Boundary.bench(rows(row(1, 2), null));
        x.over(0, 0);
        b.same("a LEAF of 0s", x.leaf(0, 1, 0, 0, 0, 0, 0), true);
        b.same("is there", Boundary.table(x, 0), "2x2, 2 there: 1 2 / 0 0");
        x.leaf(0, 0, 5, 5, 5, 5, 5);
        b.same("ANSWER stays", Due.told(x), "4x2: 1 2 / 0 0 / 1 2 / 0 0");
    }

    private void behindTheColumns() {
        b.says(3, "(those behind its columns are not looked at): true");
        for (int columns = 1; columns < 5; columns++) {
            for (int value : WRONG_VALUES) {
                int[] n = {value, value, value, value, value};
                for (int j = 0; j < columns; j++) {
                    n[j] = 10 * j;
                }
                LatticeBench x = new LatticeBench();
                x.table(0, 2, columns);
                b.same(columns + " columns, then " + value, leaf(x, 0, 1, n), true);
                b.same("the last column", x.get(0, 1, columns - 1), 10 * (columns - 1));
                b.same("behind it", x.get(0, 1, columns), -10000);
                x.stair(0);
                b.same("columns that are told", x.answer(1), columns > 1 ? columns : 0);
            }
        }
    }

    private void noSuchLeaf() {
        b.says(3, "false when there is none such");
        for (int t : Boundary.NO_TABLES) {
            b.leaves("leaf of TABLE " + t, false, x -> x.leaf(t, 0, 9, 9, 9, 9, 9), rows(row(1, 2)));
        }
        for (int i : new int[] {-1, 2, 3, 4, 5, LEAST, MOST}) {
            b.leaves("LEAF " + i + " of 2", false, x -> x.leaf(0, i, 9, 9, 9, 9, 9),
                    rows(row(1, 2), null));
        }
        for (int i : new int[] {-1, 5, 6, LEAST, MOST}) {
            b.leaves("LEAF " + i + " of 5", false, x -> x.leaf(0, i, 9, 9, 9, 9, 9),
                    rows(row(1), row(2), row(3), row(4), row(5)));
        }
        b.leaves("LEAF 1 of 1", false, x -> x.leaf(0, 1, 9, 9, 9, 9, 9), rows(row(1)));
    }

    private void numbersOfALeaf() {
        b.says(3, ", or a number can't be.");
        for (int columns = 1; columns <= 5; columns++) {
            for (int j = 0; j < columns; j++) {
                for (int value : WRONG_VALUES) {
                    int[] n = counting(columns, j, value);
                    int[] was = java.util.Arrays.copyOf(counting(5, -1, 0), columns);
                    String call = columns + " columns, " + value + " in column " + j;
                    b.leaves(call, false, x -> leaf(x, 0, 0, n), rows(was, null));
                    b.leaves(call + ", a missing LEAF", false, x -> leaf(x, 0, 1, n), rows(was, null));
                }
            }
        }
        b.says(3, "with whole numbers -1000 .. 1000");
        for (int columns = 1; columns <= 5; columns++) {
            for (int j = 0; j < columns; j++) {
                for (int value : new int[] {1000, -1000, 999, -999, 0}) {
                    LatticeBench x = new LatticeBench();
                    x.table(0, 1, columns);
                    b.same(value + " in column " + j, leaf(x, 0, 0, counting(columns, j, value)), true);
                    b.same("the number", x.get(0, 0, j), value);
                }
            }
        }
    }

    private void leafMissingAgain() {
        b.says(4, "A LEAF is missing again");
        LatticeBench x = Boundary.bench(rows(row(1, 2), row(3, 4)), rows(row(5)));
        x.over(0, 0);
        x.tear(0, 0);
        b.same("the first", Boundary.table(x, 0), "2x2, 1 there: 0 0 / 3 4");
        x.tear(0, 1);
        b.same("the last", Boundary.table(x, 0), "2x2, 0 there: 0 0 / 0 0");
        b.same("a TABLE without LEAVES is one", x.count(0), 2);
        b.same("of the other TABLE", Boundary.table(x, 1), "1x1, 1 there: 5");
        b.same("ANSWER stays", Due.told(x), "4x2: 1 2 / 3 4 / 1 2 / 3 4");
    }

    private void whetherItWasThere() {
        b.says(4, "whether it was there.");
        LatticeBench x = Boundary.bench(rows(row(1, 2), null, row(0, 0)));
        b.same("a LEAF", x.tear(0, 0), true);
        b.same("the same again", x.tear(0, 0), false);
        b.same("one that was never there", x.tear(0, 1), false);
        b.same("one of 0s", x.tear(0, 2), true);
        b.same("put again", x.leaf(0, 0, 1, 1, 1, 1, 1), true);
        b.same("and torn", x.tear(0, 0), true);
        b.leaves("of a missing LEAF", false, y -> y.tear(0, 1), rows(row(1, 2), null));
        for (int t : Boundary.NO_TABLES) {
            b.leaves("of TABLE " + t, false, y -> y.tear(t, 0), rows(row(1, 2)));
        }
        for (int i : new int[] {-1, 2, 4, 5, LEAST, MOST}) {
            b.leaves("LEAF " + i + " of 2", false, y -> y.tear(0, i), rows(row(1), row(2)));
        }
        b.leaves("LEAF 5 of 5", false, y -> y.tear(0, 5), Boundary.square(5, 1, 2));
    }

    private void missingIsZeros() {
        b.says(4, "a LEAF may be missing, which is as if it had 0s");
        b.tells("stair", 1, "1x2: 2 3", x -> x.stair(0), rows(null, row(2, 3)));
        b.tells("stair of missing ones and of 0s", 0, "0x0:", x -> x.stair(0), rows(null, null, row(0, 0)));
        b.tells("worth", 0, "1x1: 0", x -> x.worth(0), rows(row(1, 2), null));
        b.tells("kernel", 1, "1x2: 0 1", x -> x.kernel(0), rows(row(1, 2), null));
        b.tells("over", true, "4x2: 0 0 / 1 2 / 5 6 / 0 0", x -> x.over(0, 1),
                rows(null, row(1, 2)), rows(row(5, 6), null));
    }

    private void numberOfATable() {
        b.says(5, "A number of a TABLE");
        LatticeBench x = Boundary.bench(rows(row(1000, -1000), null), Boundary.square(5, 7, -8));
        b.same("the greatest", x.get(0, 0, 0), 1000);
        b.same("the least", x.get(0, 0, 1), -1000);
        b.same("of a missing LEAF", x.get(0, 1, 1), 0);
        for (int k = 0; k < 25; k++) {
            b.same("of 25", x.get(1, k / 5, k % 5), k / 5 == k % 5 ? 7 : -8);
        }
    }

    private void noSuchNumberOfATable() {
        b.says(5, "-10000 when there is none such.");
        for (int t : Boundary.NO_TABLES) {
            b.leaves("TABLE " + t, -10000, x -> x.get(t, 0, 0), rows(row(1, 2)));
        }
        for (int wrong : new int[] {-1, 5, LEAST, MOST}) {
            b.leaves("row " + wrong, -10000, x -> x.get(0, wrong, 0), Boundary.square(5, 1, 2));
            b.leaves("column " + wrong, -10000, x -> x.get(0, 0, wrong), Boundary.square(5, 1, 2));
        }
        b.leaves("row 2 of 2", -10000, x -> x.get(0, 2, 0), rows(row(1, 2, 3), row(4, 5, 6)));
        b.leaves("column 3 of 3", -10000, x -> x.get(0, 0, 3), rows(row(1, 2, 3), row(4, 5, 6)));
        b.leaves("row 2, column 3", -10000, x -> x.get(0, 2, 3), rows(row(1, 2, 3), row(4, 5, 6)));
    }

    private void sums() {
        b.says(11, "TABLE to is the sum of two");
        int[][] one = rows(row(1, 2), row(3, 4));
        int[][] two = rows(row(10, 20), row(30, 40));
        String sum = "2x2, 2 there: 11 22 / 33 44";
        b.makes("into a TABLE that was none", 11, sum, x -> x.add(0, 1, false, 11), one, two);
        b.makes("into one of other sides", 2, sum, x -> x.add(0, 1, false, 2), one, two,
                Boundary.square(5, 7, 7));
        b.makes("into the first", 0, sum, x -> x.add(0, 1, false, 0), one, two);
        b.makes("into the second", 1, sum, x -> x.add(0, 1, false, 1), one, two);
        b.makes("twice the same", 1, "2x2, 2 there: 2 4 / 6 8", x -> x.add(0, 0, false, 1), one, two);
        b.makes("into itself", 0, "2x2, 2 there: 2 4 / 6 8", x -> x.add(0, 0, false, 0), one);
        b.makes("of a row", 2, "1x5, 1 there: 2 4 6 8 10", x -> x.add(0, 1, false, 2),
                rows(row(1, 2, 3, 4, 5)), rows(row(1, 2, 3, 4, 5)));
        b.makes("of a column", 2, "5x1, 5 there: 2 / 4 / 6 / 8 / 10", x -> x.add(0, 1, false, 2),
                rows(row(1), row(2), row(3), row(4), row(5)), rows(row(1), row(2), row(3), row(4), row(5)));
        b.makes("of 2 rows and 3 columns", 2, "2x3, 2 there: 2 4 6 / 8 10 12",
                x -> x.add(0, 0, false, 2), rows(row(1, 2, 3), row(4, 5, 6)));
        b.makes("of 25 numbers", 2, "5x5, 5 there:" + " 3 3 3 3 3 /".repeat(4) + " 3 3 3 3 3",
                x -> x.add(0, 1, false, 2), Boundary.square(5, 1, 2), Boundary.square(5, 2, 1));
    }

    private void differences() {
        b.says(11, ", or (less) their difference: true");
        int[][] one = rows(row(1, 2), row(3, 4));
        int[][] two = rows(row(10, 20), row(30, 40));
        b.makes("less", 2, "2x2, 2 there: -9 -18 / -27 -36", x -> x.add(0, 1, true, 2), one, two);
        b.makes("the other way", 2, "2x2, 2 there: 9 18 / 27 36", x -> x.add(1, 0, true, 2), one, two);
        b.makes("into the second", 1, "2x2, 2 there: -9 -18 / -27 -36", x -> x.add(0, 1, true, 1),
                one, two);
        b.makes("less itself", 0, "2x2, 2 there: 0 0 / 0 0", x -> x.add(0, 0, true, 0), one);
    }

    private void addOfNone() {
        b.says(11, "false when there are none such");
        int[][] one = rows(row(1, 2));
        for (boolean less : new boolean[] {false, true}) {
            for (int t : Boundary.NO_TABLES) {
                b.leaves("first " + t, false, x -> x.add(t, 0, less, 1), one, one);
                b.leaves("second " + t, false, x -> x.add(0, t, less, 1), one, one);
                b.leaves("both " + t, false, x -> x.add(t, t, less, 1), one, one);
            }
            for (int to : Boundary.WRONG_NUMBERS) {
                b.leaves("to " + to, false, x -> x.add(0, 1, less, to), one, one);
            }
        }
    }

    private void addOfOtherSides() {
        b.says(11, ", they are not of the same rows and columns");
        int[][] one = rows(row(1, 2));
        for (boolean less : new boolean[] {false, true}) {
            b.leaves("more rows", false, x -> x.add(0, 1, less, 2), one, rows(row(1, 2), row(0, 0)));
            b.leaves("less rows", false, x -> x.add(1, 0, less, 2), one, rows(row(1, 2), row(0, 0)));
            b.leaves("more columns", false, x -> x.add(0, 1, less, 1), one, rows(row(1, 2, 0)));
            b.leaves("less columns", false, x -> x.add(0, 1, less, 0), one, rows(row(1)));
            b.leaves("turned", false, x -> x.add(0, 1, less, 2), one, rows(row(1), row(2)));
        }
    }

    private void addThatCannotBe() {
        b.says(11, ", or a number can't be.");
        int[][] most = rows(row(0, 1000), row(-1000, 0));
        b.leaves("1001", false, x -> x.add(0, 1, false, 0), most, rows(row(0, 1), row(0, 0)));
        b.leaves("-1001", false, x -> x.add(0, 1, false, 1), most, rows(row(0, 0), row(-1, 0)));
        b.leaves("less, 1001", false, x -> x.add(0, 1, true, 0), most, rows(row(0, -1), row(0, 0)));
        b.leaves("less, -1001", false, x -> x.add(0, 1, true, 2), most, rows(row(0, 0), row(1, 0)));
        b.leaves("2000", false, x -> x.add(0, 0, false, 0), rows(row(1, 1), row(1, 1000)));
        int[][] last = Boundary.square(5, 1, 0);
        last[4][4] = 501;
        b.leaves("only the last one of 25", false, x -> x.add(0, 0, false, 1), last, last);
        b.leaves("only the last one of a row", false, x -> x.add(0, 0, false, 0), rows(row(1, 2, 3, 4, 501)));
        b.leaves("only the last one of a column", false, x -> x.add(0, 0, false, 0),
                rows(row(1), row(2), row(3), row(4), row(-501)));
        b.makes("1000", 2, "2x2, 2 there: 0 1000 / -1000 0", x -> x.add(0, 1, false, 2),
                rows(row(0, 999), row(-999, 0)), rows(row(0, 1), row(-1, 0)));
        b.makes("less, 1000", 2, "2x2, 2 there: 0 1000 / -1000 0", x -> x.add(0, 1, true, 2),
                rows(row(0, 999), row(-999, 0)), rows(row(0, -1), row(1, 0)));
    }

    private void products() {
        b.says(12, "TABLE to is a times b");
        int[][] wide = rows(row(1, 2, 3), row(4, 5, 6));
        int[][] high = rows(row(1, 0), row(2, 1), row(0, -1));
        b.makes("times", 2, "2x2, 2 there: 5 -1 / 14 -1", x -> x.times(0, 1, 2), wide, high);
        b.makes("the other way, into a", 1, "3x3, 3 there: 1 2 3 / 6 9 12 / -4 -5 -6",
                x -> x.times(1, 0, 1), wide, high);
        b.makes("into b", 0, "3x3, 3 there: 1 2 3 / 6 9 12 / -4 -5 -6",
                x -> x.times(1, 0, 0), wide, high);
        b.makes("a square into itself", 0, "2x2, 2 there: 7 10 / 15 22",
                x -> x.times(0, 0, 0), rows(row(1, 2), row(3, 4)));
        b.makes("a column times a row", 2, "5x5, 5 there: 1 2 3 4 5 / 2 4 6 8 10 / 3 6 9 12 15"
                + " / 4 8 12 16 20 / 5 10 15 20 25", x -> x.times(0, 1, 2),
                rows(row(1), row(2), row(3), row(4), row(5)), rows(row(1, 2, 3, 4, 5)));
        b.makes("a row times a column", 2, "1x1, 1 there: 55", x -> x.times(1, 0, 2),
                rows(row(1), row(2), row(3), row(4), row(5)), rows(row(1, 2, 3, 4, 5)));
    }

    private void timesRefused() {
        b.says(12, "likewise.");
        int[][] one = rows(row(1, 2), row(3, 4));
        for (int t : Boundary.NO_TABLES) {
            b.leaves("first " + t, false, x -> x.times(t, 0, 1), one, one);
            b.leaves("second " + t, false, x -> x.times(0, t, 1), one, one);
        }
        for (int to : Boundary.WRONG_NUMBERS) {
            b.leaves("to " + to, false, x -> x.times(0, 1, to), one, one);
        }
        int[][] flat = rows(row(1, 2, 3));
        b.leaves("more columns than rows", false, x -> x.times(1, 0, 2), one, flat);
        b.leaves("less columns than rows", false, x -> x.times(0, 1, 2), one, flat);
        b.leaves("the same sides", false, x -> x.times(0, 0, 0), flat);
        b.leaves("1001", false, x -> x.times(0, 1, 0), rows(row(10, 1)), rows(row(100), row(1)));
        b.leaves("-1001", false, x -> x.times(0, 1, 1), rows(row(10, 1)), rows(row(-100), row(-1)));
        b.leaves("5 times 1000 times 1000", false, x -> x.times(0, 0, 0), Boundary.square(5, 1000, 1000));
        b.leaves("only the last one can't be", false, x -> x.times(0, 1, 2),
                rows(row(1, 0), row(0, 2)), rows(row(1, 0), row(0, 501)));
        b.leaves("only the last one of a row", false, x -> x.times(0, 1, 0), rows(row(2)),
                rows(row(1, 2, 3, 4, 501)));
        b.leaves("only the last one of a column", false, x -> x.times(1, 0, 1), rows(row(-2)),
                rows(row(1), row(2), row(3), row(4), row(501)));
        b.makes("1000", 2, "1x1, 1 there: 1000", x -> x.times(0, 1, 2), rows(row(10, 1)),
                rows(row(99), row(10)));
        b.makes("-1000", 2, "1x1, 1 there: -1000", x -> x.times(0, 1, 2), rows(row(10, 1)),
                rows(row(-99), row(-10)));
        b.makes("parts that can't be, but not their sum", 2, "1x1, 1 there: 0",
                x -> x.times(0, 1, 2), rows(row(1000, 1000)), rows(row(1000), row(-1000)));
    }

    private void turned() {
        b.says(13, "TABLE to is a with rows and columns changed: true");
        int[][] wide = rows(row(1, 2, 3), row(4, 5, 6));
        b.makes("turn", 1, "3x2, 3 there: 1 4 / 2 5 / 3 6", x -> x.turn(0, 1), wide);
        b.makes("into itself", 0, "3x2, 3 there: 1 4 / 2 5 / 3 6", x -> x.turn(0, 0), wide);
        b.makes("one row", 11, "5x1, 5 there: 1 / 2 / 3 / 4 / 1000", x -> x.turn(0, 11),
                rows(row(1, 2, 3, 4, 1000)));
        b.makes("one column", 0, "1x5, 1 there: 1 2 3 4 -1000", x -> x.turn(0, 0),
                rows(row(1), row(2), row(3), row(4), row(-1000)));
        b.makes("one number", 0, "1x1, 1 there: -7", x -> x.turn(0, 0), rows(row(-7)));
        b.makes("into one of more rows", 1, "2x1, 2 there: 8 / 9", x -> x.turn(0, 1),
                rows(row(8, 9)), Boundary.square(5, 1, 1));
    }

    private void turnOfNone() {
        b.says(13, "false when there are none such.");
        for (int t : Boundary.NO_TABLES) {
            b.leaves("turn " + t, false, x -> x.turn(t, 1), rows(row(1, 2)), rows(row(3)));
        }
        for (int to : Boundary.WRONG_NUMBERS) {
            b.leaves("to " + to, false, x -> x.turn(0, to), rows(row(1, 2)), rows(row(3)));
        }
    }

    private void noLeafOfToIsMissing() {
        b.says(13, "(Of add(), times(), turn() no LEAF of to is missing.)");
        int[][] gaps = rows(row(1, 2), null);
        b.makes("add", 1, "2x2, 2 there: 2 4 / 0 0", x -> x.add(0, 0, false, 1), gaps, gaps);
        b.makes("add, less, to itself", 0, "2x2, 2 there: 0 0 / 0 0", x -> x.add(0, 0, true, 0), gaps);
        b.makes("times", 1, "2x2, 2 there: 1 2 / 0 0", x -> x.times(0, 0, 1), gaps, gaps);
        b.makes("times, to itself", 0, "2x2, 2 there: 1 2 / 0 0", x -> x.times(0, 0, 0), gaps);
        b.makes("turn", 1, "2x2, 2 there: 1 0 / 2 0", x -> x.turn(0, 1), gaps, gaps);
        b.makes("turn, to itself", 0, "2x2, 2 there: 1 0 / 2 0", x -> x.turn(0, 0), gaps);
        LatticeBench x = Boundary.bench(gaps);
        x.turn(0, 1);
        b.same("each of them can be torn", x.tear(1, 0) && x.tear(1, 1), true);
        b.same("those of a are as they were", x.tear(0, 0) && !x.tear(0, 1), true);
    }

    private void counts() {
        b.says(29, "0 TABLES that there are, 1 LEAVES of them that are there.");
        LatticeBench x = new LatticeBench();
        for (int t = 0; t < 12; t++) {
            x.table(t, 5, 1);
            b.same("TABLES", x.count(0), t + 1);
            b.same("LEAVES", x.count(1), 5 * t);
            for (int i = 0; i < 5; i++) {
                x.leaf(t, i, 0, 0, 0, 0, 0);
                b.same("LEAVES", x.count(1), 5 * t + i + 1);
            }
        }
        b.same("all", x.count(1), 60);
        x.tear(11, 4);
        b.same("one torn", x.count(1), 59);
        x.table(11, 1, 1);
        b.same("made anew", x.count(0), 12);
        b.same("made anew", x.count(1), 55);
        x.turn(0, 11);
        b.same("by turn", x.count(1), 56);
        b.leaves("count(0) leaves all", 2, y -> y.count(0), rows(row(1, 2), null), rows(row(3)));
        b.leaves("count(1) leaves all", 2, y -> y.count(1), rows(row(1, 2), null), rows(row(3)));
    }

    private void countOfOthers() {
        b.says(29, "NONE for others.");
        for (int what : new int[] {-1, 2, 3, LEAST, MOST}) {
            b.leaves("count(" + what + ")", -1, x -> x.count(what), rows(row(1, 2)));
            b.same("count(" + what + ") at first", new LatticeBench().count(what), -1);
        }
    }

    private void theLastCall() {
        b.says(1, "An object is used for at most 512 calls after it has been made");
        LatticeBench x = new LatticeBench();
        x.table(0, 2, 2);
        x.leaf(0, 0, 2, 4, 0, 0, 0);
        for (int call = 3; call <= 510; call++) {
            x.leaf(0, 1, 6, call, 0, 0, 0);
        }
        b.same("call 511", x.leaf(0, 1, 6, 8, 0, 0, 0), true);
        b.same("call 512", x.stair(0), 2);
    }
}

/** Each promise of the document on a new object: ordinary inputs, its edges, and wrong inputs. */
public final class PromisesTest {
    private static final int[] WRONG_TABLES = {-1, 12, Integer.MIN_VALUE, Integer.MAX_VALUE};
    private static final Due DUE = new Due("PromisesTest");

    private PromisesTest() {
    }

    public static void main(String[] args) {
        newObject();
        table();
        leaf();
        tear();
        get();
        about();
        kinds();
        answerAndItsNumbers();
        longAnswer();
        add();
        times();
        turn();
        over();
        worth();
        stair();
        sizes();
        kernel();
        back();
        solve();
        reach();
        order();
        join();
        both();
        within();
        index();
        quotient();
        dual();
        count();
        answerStays();
        DUE.end();
    }

    private static void same(String call, Object got, Object want) {
        DUE.same(call, got, want);
    }

    private static LatticeBench with(int[][]... tables) {
        LatticeBench x = new LatticeBench();
        for (int t = 0; t < tables.length; t++) {
            Due.fill(x, t, tables[t]);
        }
        return x;
    }

    private static int[][] rows(int[]... rows) {
        return rows;
    }

    private static int[] row(int... numbers) {
        return numbers;
    }

    // Promise 1
    private static void newObject() {
        LatticeBench x = new LatticeBench();
        same("NONE", LatticeBench.NONE, -1);
        same("count(0) at first", x.count(0), 0);
        same("count(1) at first", x.count(1), 0);
        same("ANSWER at first", Due.told(x), "none");
        for (int what = -1; what < 3; what++) {
            same("answer at first", x.answer(what), -1);
        }
        same("sign at first", x.sign(0, 0), -2);
        same("bits at first", x.bits(0, 0, 0), 0);
        same("length at first", x.length(0, 0), -1);
        for (int t = 0; t < 12; t++) {
            same("about at first", x.about(t, 0), -1);
        }
    }

    // Promise 2
    private static void table() {
        LatticeBench x = new LatticeBench();
        for (int t : WRONG_TABLES) {
            DUE.no("table(" + t + ", 1, 1)", x.table(t, 1, 1));
        }
        for (int side : new int[] {-1, 0, 6, Integer.MAX_VALUE, Integer.MIN_VALUE}) {
            DUE.no("rows " + side, x.table(0, side, 1));
            DUE.no("columns " + side, x.table(0, 1, side));
        }
        same("no table by refused calls", x.count(0), 0);
        for (int t = 0; t < 12; t++) {
            for (int n = 1; n <= 5; n++) {
                DUE.yes("table(" + t + ", " + n + ", ..)", x.table(t, n, 6 - n));
                same("rows", x.about(t, 0), n);
                same("columns", x.about(t, 1), 6 - n);
                same("leaves", x.about(t, 2), 0);
            }
        }
        Due.fill(x, 3, rows(row(1, 2), row(3, 4)));
        DUE.no("table(3, 2, 6)", x.table(3, 2, 6));
        same("a refused table changes nothing", x.get(3, 1, 1), 4);
        DUE.yes("table(3, 2, 2) anew", x.table(3, 2, 2));
        same("leaves of a new table", x.about(3, 2), 0);
        same("numbers of a new table", x.get(3, 1, 1), 0);
    }

    // Promise 3
    private static void leaf() {
        LatticeBench x = new LatticeBench();
        DUE.no("leaf of no table", x.leaf(0, 0, 1, 1, 1, 1, 1));
        x.table(0, 2, 3);
        for (int t : WRONG_TABLES) {
            DUE.no("leaf of table " + t, x.leaf(t, 0, 1, 1, 1, 1, 1));
        }
        for (int i : new int[] {-1, 2, 5, Integer.MAX_VALUE, Integer.MIN_VALUE}) {
            DUE.no("leaf " + i, x.leaf(0, i, 1, 1, 1, 1, 1));
        }
        DUE.yes("numbers at the bounds", x.leaf(0, 1, 1000, -1000, 0, 0, 0));
        DUE.yes("numbers behind the columns", x.leaf(0, 0, 7, 8, 9, 5000, Integer.MIN_VALUE));
        same("first", x.get(0, 0, 0), 7);
        same("last", x.get(0, 0, 2), 9);
        same("least", x.get(0, 1, 1), -1000);
        for (int wrong : new int[] {1001, -1001, Integer.MAX_VALUE, Integer.MIN_VALUE}) {
            DUE.no("a = " + wrong, x.leaf(0, 0, wrong, 0, 0, 0, 0));
            DUE.no("b = " + wrong, x.leaf(0, 0, 0, wrong, 0, 0, 0));
            DUE.no("c = " + wrong, x.leaf(0, 0, 0, 0, wrong, 0, 0));
        }
        same("a refused leaf changes nothing", x.get(0, 0, 0), 7);
        x.table(1, 1, 5);
        DUE.no("d = 1001", x.leaf(1, 0, 0, 0, 0, 1001, 0));
        DUE.no("e = 1001", x.leaf(1, 0, 0, 0, 0, 0, 1001));
        same("a refused leaf stays missing", x.about(1, 2), 0);
        DUE.yes("five columns", x.leaf(1, 0, 1, 2, 3, 4, 5));
        for (int j = 0; j < 5; j++) {
            same("column " + j, x.get(1, 0, j), j + 1);
        }
        DUE.yes("a leaf of 0s is there", x.leaf(1, 0, 0, 0, 0, 0, 0));
        same("a leaf of 0s is there", x.about(1, 2), 1);
    }

    // Promise 4
    private static void tear() {
        LatticeBench x = with(rows(row(1, 2), row(3, 4)));
        DUE.no("tear of no table", x.tear(1, 0));
        for (int t : WRONG_TABLES) {
            DUE.no("tear of table " + t, x.tear(t, 0));
        }
        for (int i : new int[] {-1, 2, Integer.MAX_VALUE, Integer.MIN_VALUE}) {
            DUE.no("tear " + i, x.tear(0, i));
        }
        DUE.yes("tear", x.tear(0, 1));
        same("its number", x.get(0, 1, 0), 0);
        same("the other's", x.get(0, 0, 1), 2);
        same("RANK", x.about(0, 4), 1);
        DUE.no("tear again", x.tear(0, 1));
        DUE.yes("leaf again", x.leaf(0, 1, 0, 0, 0, 0, 0));
        DUE.yes("tear of 0s", x.tear(0, 1));
    }

    // Promise 5
    private static void get() {
        LatticeBench x = with(rows(row(1, -2, 3)));
        x.table(1, 2, 2);
        same("get", x.get(0, 0, 1), -2);
        same("of a missing leaf", x.get(1, 1, 1), 0);
        for (int wrong : new int[] {-1, 5, Integer.MAX_VALUE, Integer.MIN_VALUE}) {
            same("row " + wrong, x.get(0, wrong, 0), -10000);
            same("column " + wrong, x.get(0, 0, wrong), -10000);
        }
        same("row behind", x.get(0, 1, 0), -10000);
        same("column behind", x.get(0, 0, 3), -10000);
        same("no table", x.get(2, 0, 0), -10000);
        for (int t : WRONG_TABLES) {
            same("table " + t, x.get(t, 0, 0), -10000);
        }
    }

    // Promise 6
    private static void about() {
        LatticeBench x = with(rows(row(2, 4, 6), row(1, 2, 3)));
        same("rows", x.about(0, 0), 2);
        same("columns", x.about(0, 1), 3);
        same("leaves", x.about(0, 2), 2);
        same("kind", x.about(0, 3), 0);
        same("rank", x.about(0, 4), 1);
        for (int what : new int[] {-1, 5, Integer.MAX_VALUE, Integer.MIN_VALUE}) {
            same("about what " + what, x.about(0, what), -1);
        }
        for (int what = 0; what < 5; what++) {
            same("no table", x.about(1, what), -1);
            for (int t : WRONG_TABLES) {
                same("table " + t, x.about(t, what), -1);
            }
        }
        same("ANSWER is not told by about", Due.told(x), "none");
    }

    // Promise 6, KIND
    private static void kinds() {
        kind(4, row(1));
        kind(4, row(0));
        kind(4, row(7, 0, 0));
        kind(3, row(0, 7));
        kind(3, row(7, -3));
        kind(0, row(-7, 0));
        kind(1, row(-7));
        kind(2, row(-1));
        kind(4, row(0, 0), row(0, 0), row(0, 0));
        kind(4, row(2, 0), row(0, 6), row(0, 0));
        kind(3, row(2, 0), row(0, 3));
        kind(3, row(2, 0), row(0, 1));
        kind(3, row(2, 1), row(0, 2));
        kind(3, row(2, 0, 1), row(0, 2, 0));
        kind(1, row(2, 2), row(0, 2));
        kind(1, row(2, -1), row(0, 2));
        kind(1, row(2, 0), row(0, -2));
        kind(2, row(1, 1), row(0, 1));
        kind(2, row(0, 1), row(1, 0));
        kind(1, row(0, 2), row(1, 0));
        kind(1, row(0, 0), row(1, 0));
        kind(0, row(0, 0), row(1, 0), row(0, 0));
        kind(0, row(1, 0), row(0, 0), row(0, 1));
        kind(0, row(1, 0), row(1, 0), row(0, 1));
        kind(0, row(1, 0), row(0, 1), row(1, 1));
        kind(3, row(1, 5, 0), row(0, 0, 1));
        kind(3, row(1, 0, 0), row(0, 0, 1));
        kind(0, row(1, 5, 1), row(0, 0, 1));
        kind(4, row(2, 0, 0, 0), row(0, 4, 0, 0), row(0, 0, 8, 0));
        kind(3, row(4, 0, 0), row(0, 2, 0), row(0, 0, 8));
        kind(3, row(2, 0, 0), row(0, 4, 0), row(0, 0, 6));
        kind(4, row(1, 0, 0, 0, 0), row(0, 1, 0, 0, 0), row(0, 0, 3, 0, 0), row(0, 0, 0, 6, 0),
                row(0, 0, 0, 0, 6));
        kind(3, row(1, 0, 0, 0, 0), row(0, 1, 0, 0, 0), row(0, 0, 3, 0, 0), row(0, 0, 0, 6, 0),
                row(0, 0, 0, 0, 9));
        LatticeBench x = new LatticeBench();
        x.table(0, 3, 2);
        same("all leaves missing", x.about(0, 3), 4);
        x.leaf(0, 0, 1, 0, 0, 0, 0);
        same("missing ones behind", x.about(0, 3), 4);
        x.tear(0, 0);
        x.leaf(0, 1, 1, 0, 0, 0, 0);
        same("a missing one ahead", x.about(0, 3), 0);
    }

    private static void kind(int want, int[]... rows) {
        same("kind of " + java.util.Arrays.deepToString(rows), with(rows).about(0, 3), want);
    }

    // Promises 7 to 10
    private static void answerAndItsNumbers() {
        LatticeBench x = with(rows(row(0, -1000, 1, 513)));
        x.over(0, 0);
        same("rows", x.answer(0), 2);
        same("columns", x.answer(1), 4);
        for (int what : new int[] {-1, 2, Integer.MAX_VALUE, Integer.MIN_VALUE}) {
            same("answer(" + what + ")", x.answer(what), -1);
        }
        int[] lengths = {0, 10, 1, 10};
        int[] words = {0, 1000, 1, 513};
        for (int j = 0; j < 4; j++) {
            same("sign", x.sign(1, j), Integer.signum(x.get(0, 0, j)));
            same("length", x.length(1, j), lengths[j]);
            same("bits", x.bits(1, j, 0), words[j]);
            for (int k : new int[] {1, 2, 3, 4, 5, 100, Integer.MAX_VALUE, -1, Integer.MIN_VALUE}) {
                same("bits " + k, x.bits(1, j, k), 0);
            }
        }
        for (int wrong : new int[] {-1, 10, Integer.MAX_VALUE, Integer.MIN_VALUE}) {
            noNumber(x, wrong, 0);
            noNumber(x, 0, wrong);
        }
        noNumber(x, 2, 0);
        noNumber(x, 0, 4);
        x.table(1, 1, 1);
        x.stair(1);
        same("no rows", x.answer(0), 0);
        same("no columns then", x.answer(1), 0);
        noNumber(x, 0, 0);
    }

    private static void noNumber(LatticeBench x, int i, int j) {
        same("sign(" + i + ", " + j + ")", x.sign(i, j), -2);
        same("length(" + i + ", " + j + ")", x.length(i, j), -1);
        same("bits(" + i + ", " + j + ", 0)", x.bits(i, j, 0), 0);
    }

    // Promises 8 to 10, over more than one word
    private static void longAnswer() {
        LatticeBench x = with(
                rows(row(1000, 0, 0, 0, 0), row(0, 1000, 0, 0, 0), row(0, 0, -1000, 0, 0),
                        row(0, 0, 0, 1000, 0), row(0, 0, 0, 0, 1000)));
        same("worth", x.worth(0), -1);
        same("ANSWER", Due.told(x), "1x1: -1000000000000000");
        same("length", x.length(0, 0), 50);
        same("word 0", x.bits(0, 0, 0), (int) 1000000000000000L);
        same("word 1", x.bits(0, 0, 1), (int) (1000000000000000L >> 32));
        same("word 2", x.bits(0, 0, 2), 0);
        // Two lattices whose indices share nothing: what is in both is as long as their product.
        LatticeBench y = with(
                rows(row(1, 0, 0, 0, 997), row(0, 1, 0, 0, 991), row(997, 3, 0, 5, 0),
                        row(0, 983, 1, 7, 0), row(0, 0, 977, 1, 1)),
                rows(row(1, 0, 0, 2, 971), row(3, 1, 0, 0, 967), row(953, 3, 5, 0, 0),
                        row(0, 947, 1, 9, 0), row(0, 0, 941, 1, 4)));
        same("both", y.both(0, 1), 5);
        same("both is long", y.length(4, 4) > 64, true);
        same("ANSWER", Due.told(y), Due.text(Plain.both(big(y, 0), big(y, 1), 5), 5));
    }

    private static java.math.BigInteger[][] big(LatticeBench x, int t) {
        java.math.BigInteger[][] out =
                new java.math.BigInteger[x.about(t, 0)][x.about(t, 1)];
        for (int i = 0; i < out.length; i++) {
            for (int j = 0; j < out[i].length; j++) {
                out[i][j] = java.math.BigInteger.valueOf(x.get(t, i, j));
            }
        }
        return out;
    }

    private static String numbers(LatticeBench x, int t) {
        return Due.text(big(x, t), x.about(t, 1));
    }

    // Promise 11
    private static void add() {
        LatticeBench x = with(rows(row(1, 2), row(3, 4)), rows(row(10, 20), row(30, 996)),
                rows(row(1, 2)), rows(row(1), row(2)), rows(row(0, 0), row(0, -997)));
        DUE.yes("add", x.add(0, 1, false, 5));
        same("sum", numbers(x, 5), "2x2: 11 22 / 33 1000");
        same("leaves", x.about(5, 2), 2);
        DUE.yes("less", x.add(0, 1, true, 5));
        same("difference", numbers(x, 5), "2x2: -9 -18 / -27 -992");
        DUE.no("sum that can't be", x.add(5, 4, false, 6));
        DUE.no("difference that can't be", x.add(1, 4, true, 5));
        same("nothing changed", numbers(x, 5), "2x2: -9 -18 / -27 -992");
        same("nothing made", x.about(6, 0), -1);
        DUE.no("other rows", x.add(0, 2, false, 6));
        DUE.no("other columns", x.add(0, 3, false, 6));
        DUE.no("no first", x.add(9, 0, false, 6));
        DUE.no("no second", x.add(0, 9, false, 6));
        for (int t : WRONG_TABLES) {
            DUE.no("first " + t, x.add(t, 0, false, 6));
            DUE.no("second " + t, x.add(0, t, false, 6));
            DUE.no("to " + t, x.add(0, 0, false, t));
        }
        DUE.yes("to itself", x.add(0, 0, false, 0));
        same("doubled", numbers(x, 0), "2x2: 2 4 / 6 8");
        DUE.yes("to one of other sides", x.add(0, 0, true, 2));
        same("its sides", numbers(x, 2), "2x2: 0 0 / 0 0");
        x.table(7, 2, 2);
        DUE.yes("missing leaves", x.add(7, 7, false, 7));
        same("are there then", x.about(7, 2), 2);
    }

    // Promise 12
    private static void times() {
        LatticeBench x = with(rows(row(1, 2, 3), row(4, 5, 6)), rows(row(1, 0), row(2, 1), row(0, -1)),
                rows(row(1000)), rows(row(2)), rows(row(10, 30), row(20, 40)), rows(row(-1)));
        DUE.yes("times", x.times(0, 1, 6));
        same("product", numbers(x, 6), "2x2: 5 -1 / 14 -1");
        same("leaves", x.about(6, 2), 2);
        DUE.yes("the other way", x.times(1, 0, 6));
        same("product", numbers(x, 6), "3x3: 1 2 3 / 6 9 12 / -4 -5 -6");
        DUE.no("sides that don't fit", x.times(0, 0, 6));
        DUE.no("number that can't be", x.times(2, 3, 6));
        DUE.yes("number that just can be", x.times(2, 5, 6));
        same("least", numbers(x, 6), "1x1: -1000");
        DUE.no("no first", x.times(9, 0, 6));
        DUE.no("no second", x.times(0, 9, 6));
        for (int t : WRONG_TABLES) {
            DUE.no("first " + t, x.times(t, 2, 7));
            DUE.no("second " + t, x.times(2, t, 7));
            DUE.no("to " + t, x.times(3, 3, t));
        }
        DUE.no("its square can't be", x.times(4, 4, 4));
        same("it stays", numbers(x, 4), "2x2: 10 30 / 20 40");
        Due.fill(x, 4, rows(row(1, 3), row(2, 4)));
        DUE.yes("its square", x.times(4, 4, 4));
        same("its square", numbers(x, 4), "2x2: 7 15 / 10 22");
        x.table(8, 1, 1);
        DUE.yes("missing leaves are 0s", x.times(2, 8, 8));
        same("and are there then", x.about(8, 2), 1);
    }

    // Promise 13
    private static void turn() {
        LatticeBench x = with(rows(row(1, 2, 3), row(4, 5, 6)));
        x.tear(0, 1);
        DUE.yes("turn", x.turn(0, 1));
        same("turned", numbers(x, 1), "3x2: 1 0 / 2 0 / 3 0");
        same("leaves", x.about(1, 2), 3);
        DUE.yes("to itself", x.turn(0, 0));
        same("turned", numbers(x, 0), "3x2: 1 0 / 2 0 / 3 0");
        DUE.no("no table", x.turn(2, 3));
        for (int t : WRONG_TABLES) {
            DUE.no("turn " + t, x.turn(t, 3));
            DUE.no("to " + t, x.turn(0, t));
        }
        same("tables", x.count(0), 2);
    }

    // Promise 14
    private static void over() {
        LatticeBench x = with(rows(row(4, 5), row(0, 0)), rows(row(-1, 2)), rows(row(1)));
        DUE.yes("over", x.over(0, 1));
        same("ANSWER", Due.told(x), "3x2: 4 5 / 0 0 / -1 2");
        x.tear(1, 0);
        DUE.yes("over a missing leaf", x.over(1, 0));
        same("ANSWER", Due.told(x), "3x2: 0 0 / 4 5 / 0 0");
        DUE.no("other columns", x.over(0, 2));
        DUE.no("no first", x.over(5, 0));
        DUE.no("no second", x.over(0, 5));
        for (int t : WRONG_TABLES) {
            DUE.no("first " + t, x.over(t, 0));
            DUE.no("second " + t, x.over(0, t));
        }
        same("ANSWER stays", Due.told(x), "3x2: 0 0 / 4 5 / 0 0");
        int[][] most = new int[5][5];
        for (int i = 0; i < 25; i++) {
            most[i / 5][i % 5] = i;
        }
        Due.fill(x, 3, most);
        DUE.yes("ten rows", x.over(3, 3));
        same("rows", x.answer(0), 10);
        same("last", x.bits(9, 4, 0), 24);
    }

    // Promise 15
    private static void worth() {
        LatticeBench x = with(rows(row(1, 2), row(3, 4)), rows(row(1, 2)), rows(row(2, 4), row(1, 2)),
                rows(row(0, 0, 1), row(0, 2, 0), row(3, 0, 0)),
                rows(row(0, 1, 0, 0, 0), row(0, 0, 1, 0, 0), row(0, 0, 0, 1, 0), row(0, 0, 0, 0, 1),
                        row(5, 0, 0, 0, 0)));
        same("worth", x.worth(0), -1);
        same("ANSWER", Due.told(x), "1x1: -2");
        same("worth", x.worth(2), 0);
        same("ANSWER", Due.told(x), "1x1: 0");
        same("worth", x.worth(3), -1);
        same("ANSWER", Due.told(x), "1x1: -6");
        same("worth", x.worth(4), 1);
        same("ANSWER", Due.told(x), "1x1: 5");
        same("not SQUARE", x.worth(1), -2);
        same("no table", x.worth(7), -2);
        for (int t : WRONG_TABLES) {
            same("table " + t, x.worth(t), -2);
        }
        same("ANSWER stays", Due.told(x), "1x1: 5");
    }

    // Promise 16
    private static void stair() {
        LatticeBench x = with(rows(row(2, 4), row(6, 8)), rows(row(0, 0, -6), row(0, 0, 4)),
                rows(row(3, 1, 5), row(6, 2, 10), row(0, 4, 2)), rows(row(0)),
                rows(row(-5, 3), row(0, 2)));
        same("stair", x.stair(0), 2);
        same("ANSWER", Due.told(x), "2x2: 2 0 / 0 4");
        same("stair", x.stair(1), 1);
        same("ANSWER", Due.told(x), "1x3: 0 0 2");
        same("stair", x.stair(2), 2);
        same("ANSWER", Due.told(x), "2x3: 3 1 5 / 0 4 2");
        same("stair", x.stair(4), 2);
        same("ANSWER", Due.told(x), "2x2: 5 1 / 0 2");
        same("stair", x.stair(3), 0);
        same("ANSWER", Due.told(x), "0x0:");
        same("no table", x.stair(7), -1);
        for (int t : WRONG_TABLES) {
            same("table " + t, x.stair(t), -1);
        }
    }

    // Promise 17
    private static void sizes() {
        LatticeBench x = with(rows(row(2, 4), row(6, 8)), rows(row(4, 0), row(0, 6)),
                rows(row(6, 10, 15)), rows(row(0, 0)),
                rows(row(6, 0, 0), row(0, 10, 0), row(0, 0, 15)),
                rows(row(1, 2, 3), row(4, 5, 6), row(7, 8, 9)));
        same("sizes", x.sizes(0), 2);
        same("ANSWER", Due.told(x), "1x2: 2 4");
        same("sizes", x.sizes(1), 2);
        same("ANSWER", Due.told(x), "1x2: 2 12");
        same("sizes", x.sizes(2), 1);
        same("ANSWER", Due.told(x), "1x1: 1");
        same("sizes", x.sizes(4), 3);
        same("ANSWER", Due.told(x), "1x3: 1 30 30");
        same("sizes", x.sizes(5), 2);
        same("ANSWER", Due.told(x), "1x2: 1 3");
        same("sizes", x.sizes(3), 0);
        same("ANSWER", Due.told(x), "0x0:");
        same("no table", x.sizes(7), -1);
        for (int t : WRONG_TABLES) {
            same("table " + t, x.sizes(t), -1);
        }
    }

    // Promise 18
    private static void kernel() {
        LatticeBench x = with(rows(row(4), row(6)), rows(row(1, 2), row(3, 4)),
                rows(row(0, 0, 0), row(0, 0, 0)), rows(row(1, 1), row(2, 2), row(3, 3)));
        same("kernel", x.kernel(0), 1);
        same("ANSWER", Due.told(x), "1x2: 3 -2");
        same("kernel", x.kernel(1), 0);
        same("ANSWER", Due.told(x), "0x0:");
        same("kernel", x.kernel(2), 2);
        same("ANSWER", Due.told(x), "2x2: 1 0 / 0 1");
        same("kernel", x.kernel(3), 2);
        same("ANSWER", Due.told(x), "2x3: 1 1 -1 / 0 3 -2");
        x.tear(3, 1);
        same("with a missing leaf", x.kernel(3), 2);
        same("ANSWER", Due.told(x), "2x3: 3 0 -1 / 0 1 0");
        same("no table", x.kernel(7), -1);
        for (int t : WRONG_TABLES) {
            same("table " + t, x.kernel(t), -1);
        }
    }

    // Promise 19
    private static void back() {
        LatticeBench x = with(rows(row(2, 1), row(1, 1)), rows(row(0, 1), row(1, 0)), rows(row(-1)),
                rows(row(1, 0), row(0, 1)), rows(row(2, 0), row(0, 1)), rows(row(1, 0)),
                rows(row(1, 2, 3), row(0, 1, 4), row(5, 6, 0)));
        DUE.yes("back", x.back(0));
        same("ANSWER", Due.told(x), "2x2: 1 -1 / -1 2");
        DUE.yes("back", x.back(1));
        same("ANSWER", Due.told(x), "2x2: 0 1 / 1 0");
        DUE.yes("back", x.back(2));
        same("ANSWER", Due.told(x), "1x1: -1");
        DUE.yes("of KIND 4", x.back(3));
        same("ANSWER", Due.told(x), "2x2: 1 0 / 0 1");
        DUE.yes("back", x.back(6));
        same("ANSWER", Due.told(x), "3x3: -24 18 5 / 20 -15 -4 / -5 4 1");
        DUE.no("of WORTH 2", x.back(4));
        DUE.no("not SQUARE", x.back(5));
        DUE.no("no table", x.back(9));
        for (int t : WRONG_TABLES) {
            DUE.no("table " + t, x.back(t));
        }
        same("ANSWER stays", Due.told(x), "3x3: -24 18 5 / 20 -15 -4 / -5 4 1");
    }

    // Promise 20
    private static void solve() {
        LatticeBench x = with(rows(row(4), row(6)), rows(row(2), row(3), row(-2), row(0)),
                rows(row(1, 0), row(2, 0)), rows(row(5, 0), row(0, 1)));
        same("solve", x.solve(0, 1, 0), 1);
        same("ANSWER", Due.told(x), "1x2: 2 -1");
        same("no x", x.solve(0, 1, 1), 0);
        same("ANSWER stays", Due.told(x), "1x2: 2 -1");
        same("solve", x.solve(0, 1, 2), 1);
        same("ANSWER", Due.told(x), "1x2: 1 -1");
        same("solve for 0s", x.solve(0, 1, 3), 1);
        same("ANSWER", Due.told(x), "1x2: 0 0");
        same("solve", x.solve(2, 3, 0), 1);
        same("ANSWER", Due.told(x), "1x2: 1 2");
        same("no x", x.solve(2, 3, 1), 0);
        x.tear(1, 1);
        same("for a missing leaf", x.solve(0, 1, 1), 1);
        same("ANSWER", Due.told(x), "1x2: 0 0");
        x.table(4, 2, 1);
        same("of missing leaves", x.solve(4, 1, 0), 0);
        same("of missing leaves for one", x.solve(4, 4, 1), 1);
        same("ANSWER", Due.told(x), "1x2: 0 0");
        notAsked((t, u, i) -> x.solve(t, u, i));
    }

    private interface Asking {
        int ask(int t, int u, int i);
    }

    /** For a bench whose tables 0, 1 have 1 column, 2 has 2, and 9 is none. */
    private static void notAsked(Asking call) {
        same("other columns", call.ask(0, 2, 0), -1);
        same("no first", call.ask(9, 0, 0), -1);
        same("no second", call.ask(0, 9, 0), -1);
        for (int t : WRONG_TABLES) {
            same("first " + t, call.ask(t, 0, 0), -1);
            same("second " + t, call.ask(0, t, 0), -1);
        }
        for (int i : new int[] {-1, 5, Integer.MAX_VALUE, Integer.MIN_VALUE}) {
            same("row " + i, call.ask(0, 1, i), -1);
        }
        same("row behind", call.ask(1, 0, 2), -1);
    }

    // Promise 21
    private static void reach() {
        LatticeBench x = with(rows(row(4), row(6)), rows(row(-6), row(3), row(0)),
                rows(row(2, 4), row(6, 8)), rows(row(4, 4), row(4, 2), row(3, 0)));
        same("reach", x.reach(0, 1, 0), 1);
        same("ANSWER", Due.told(x), "1x1: -3");
        same("not reached", x.reach(0, 1, 1), 0);
        same("ANSWER stays", Due.told(x), "1x1: -3");
        same("reach", x.reach(2, 3, 0), 1);
        same("ANSWER", Due.told(x), "1x2: 2 1");
        same("not reached", x.reach(2, 3, 1), 0);
        same("not reached", x.reach(2, 3, 2), 0);
        x.table(4, 1, 1);
        same("RANK 0", x.reach(4, 1, 2), 1);
        same("ANSWER", Due.told(x), "0x0:");
        same("RANK 0, not reached", x.reach(4, 1, 0), 0);
        same("a missing leaf", x.reach(0, 4, 0), 1);
        same("ANSWER", Due.told(x), "1x1: 0");
        notAsked((t, u, i) -> x.reach(t, u, i));
    }

    // Promise 22
    private static void order() {
        LatticeBench x = with(rows(row(4), row(6)), rows(row(-6), row(3), row(0)),
                rows(row(2, 4), row(6, 8)), rows(row(1, 0), row(1, 1), row(0, 0)),
                rows(row(2, 1)), rows(row(6, 3), row(-2, -1)));
        same("order", x.order(0, 1, 0), 1);
        same("ANSWER", Due.told(x), "1x1: 1");
        same("order", x.order(0, 1, 1), 1);
        same("ANSWER", Due.told(x), "1x1: 2");
        same("order", x.order(2, 3, 1), 1);
        same("ANSWER", Due.told(x), "1x1: 4");
        same("none", x.order(4, 3, 0), 0);
        same("none", x.order(4, 3, 1), 0);
        same("ANSWER stays", Due.told(x), "1x1: 4");
        same("of 0s", x.order(4, 3, 2), 1);
        same("ANSWER", Due.told(x), "1x1: 1");
        same("of RANK 1", x.order(5, 4, 0), 1);
        same("ANSWER", Due.told(x), "1x1: 1");
        Due.fill(x, 5, rows(row(6, 3)));
        same("of RANK 1", x.order(5, 4, 0), 1);
        same("ANSWER", Due.told(x), "1x1: 3");
        x.table(6, 1, 1);
        same("0s in RANK 0", x.order(6, 1, 2), 1);
        same("ANSWER", Due.told(x), "1x1: 1");
        same("none in RANK 0", x.order(6, 1, 0), 0);
        notAsked((t, u, i) -> x.order(t, u, i));
    }

    private interface Pairing {
        int ask(int a, int b);
    }

    /** For a bench whose table 0 has 2 columns, 1 has 1, and 9 is none. */
    private static void notPaired(Pairing call) {
        same("other columns", call.ask(0, 1), -1);
        same("no first", call.ask(9, 0), -1);
        same("no second", call.ask(0, 9), -1);
        for (int t : WRONG_TABLES) {
            same("first " + t, call.ask(t, 0), -1);
            same("second " + t, call.ask(0, t), -1);
        }
    }

    // Promise 23
    private static void join() {
        LatticeBench x = with(rows(row(2, 0), row(0, 2)), rows(row(1)), rows(row(3, 3)));
        same("join", x.join(0, 2), 2);
        same("ANSWER", Due.told(x), "2x2: 1 1 / 0 2");
        x.table(3, 2, 2);
        same("with 0s", x.join(3, 2), 1);
        same("ANSWER", Due.told(x), "1x2: 3 3");
        same("0s", x.join(3, 3), 0);
        same("ANSWER", Due.told(x), "0x0:");
        notPaired((a, b) -> x.join(a, b));
    }

    // Promise 24
    private static void both() {
        LatticeBench x = with(rows(row(2, 0), row(0, 2)), rows(row(1)), rows(row(3, 3)),
                rows(row(1, 0)), rows(row(4, 0), row(0, 6)), rows(row(6, 0), row(0, 4)));
        same("both", x.both(0, 2), 1);
        same("ANSWER", Due.told(x), "1x2: 6 6");
        same("both", x.both(4, 5), 2);
        same("ANSWER", Due.told(x), "2x2: 12 0 / 0 12");
        same("only 0s", x.both(2, 3), 0);
        same("ANSWER", Due.told(x), "0x0:");
        same("with itself", x.both(0, 0), 2);
        same("ANSWER", Due.told(x), "2x2: 2 0 / 0 2");
        x.table(6, 1, 2);
        same("with 0s", x.both(0, 6), 0);
        notPaired((a, b) -> x.both(a, b));
    }

    // Promise 25
    private static void within() {
        LatticeBench x = with(rows(row(2, 0), row(0, 2)), rows(row(1)), rows(row(4, 2)), rows(row(4, 1)));
        same("within", x.within(2, 0), 1);
        same("not within", x.within(3, 0), 0);
        same("not within", x.within(0, 2), 0);
        same("in itself", x.within(0, 0), 1);
        x.table(4, 3, 2);
        same("0s", x.within(4, 2), 1);
        same("in 0s", x.within(2, 4), 0);
        same("0s in 0s", x.within(4, 4), 1);
        same("ANSWER is not told by within", Due.told(x), "none");
        notPaired((a, b) -> x.within(a, b));
    }

    // Promise 26
    private static void index() {
        LatticeBench x = with(rows(row(2, 0), row(0, 2)), rows(row(1)), rows(row(4, 2), row(0, 10)),
                rows(row(4, 1)), rows(row(8, 4)), rows(row(2, 1), row(-2, -1)));
        same("index", x.index(2, 0), 1);
        same("ANSWER", Due.told(x), "1x1: 10");
        same("not within", x.index(0, 2), 0);
        same("not within", x.index(3, 0), 0);
        same("of lesser RANK", x.index(4, 0), -2);
        same("ANSWER stays", Due.told(x), "1x1: 10");
        same("of RANK 1", x.index(4, 5), 1);
        same("ANSWER", Due.told(x), "1x1: 4");
        x.table(6, 1, 2);
        same("0s in 0s", x.index(6, 6), 1);
        same("ANSWER", Due.told(x), "1x1: 1");
        same("0s", x.index(6, 0), -2);
        notPaired((a, b) -> x.index(a, b));
    }

    // Promise 27
    private static void quotient() {
        LatticeBench x = with(rows(row(2, 0), row(0, 2)), rows(row(1)), rows(row(4, 0), row(0, 12)),
                rows(row(4, 1)), rows(row(6, 0)), rows(row(8, 4)), rows(row(6, 2)));
        same("quotient", x.quotient(2, 0), 2);
        same("ANSWER", Due.told(x), "1x2: 2 6");
        same("not within", x.quotient(0, 2), -2);
        same("not within", x.quotient(3, 0), -2);
        same("ANSWER stays", Due.told(x), "1x2: 2 6");
        same("one FREE, one size", x.quotient(4, 0), 11);
        same("ANSWER", Due.told(x), "1x1: 3");
        same("one FREE, one size", x.quotient(5, 0), 11);
        same("ANSWER", Due.told(x), "1x1: 2");
        same("one FREE", x.quotient(6, 0), 10);
        same("ANSWER", Due.told(x), "0x0:");
        x.table(7, 1, 2);
        same("by 0s", x.quotient(7, 0), 20);
        same("ANSWER", Due.told(x), "0x0:");
        same("0s by 0s", x.quotient(7, 7), 0);
        same("0s by more", x.quotient(0, 7), -2);
        notPaired((a, b) -> x.quotient(a, b));
    }

    // Promise 28
    private static void dual() {
        LatticeBench x = with(rows(row(2, 4), row(6, 8)), rows(row(1, 0)), rows(row(2, 4), row(1, 2)),
                rows(row(-6)), rows(row(1, 0), row(0, 1)), rows(row(2, 1), row(0, 3)));
        same("dual", x.dual(0), 3);
        same("ANSWER", Due.told(x), "3x2: 4 0 / 2 0 / 0 1");
        same("dual", x.dual(3), 2);
        same("ANSWER", Due.told(x), "2x1: 6 / 1");
        same("dual", x.dual(4), 3);
        same("ANSWER", Due.told(x), "3x2: 1 0 / 1 0 / 0 1");
        same("dual", x.dual(5), 3);
        same("ANSWER", Due.told(x), "3x2: 6 0 / 1 4 / 0 6");
        same("not SQUARE", x.dual(1), 0);
        same("of WORTH 0", x.dual(2), 0);
        same("no table", x.dual(9), -1);
        for (int t : WRONG_TABLES) {
            same("table " + t, x.dual(t), -1);
        }
        same("ANSWER stays", Due.told(x), "3x2: 6 0 / 1 4 / 0 6");
        Due.fill(x, 6, rows(row(1, 0, 0, 0, 0), row(0, 1, 0, 0, 0), row(0, 0, 1, 0, 0),
                row(0, 0, 0, 1, 0), row(0, 0, 0, 0, 7)));
        same("the greatest", x.dual(6), 6);
        same("D", x.bits(0, 0, 0), 7);
        same("last", x.bits(5, 4, 0), 1);
    }

    // Promise 29
    private static void count() {
        LatticeBench x = with(rows(row(1), row(2)), rows(row(1, 2)));
        x.table(11, 5, 5);
        same("tables", x.count(0), 3);
        same("leaves", x.count(1), 3);
        for (int what : new int[] {-1, 2, Integer.MAX_VALUE, Integer.MIN_VALUE}) {
            same("count(" + what + ")", x.count(what), -1);
        }
        x.tear(0, 0);
        same("leaves", x.count(1), 2);
        x.turn(1, 11);
        same("tables", x.count(0), 3);
        same("leaves", x.count(1), 4);
        x.table(11, 5, 5);
        same("leaves", x.count(1), 2);
    }

    // Term I: the latest ANSWER stays, whatever becomes of the tables
    private static void answerStays() {
        LatticeBench x = with(rows(row(2, 4), row(6, 8)));
        x.stair(0);
        String was = Due.told(x);
        x.leaf(0, 0, 1, 1, 0, 0, 0);
        x.tear(0, 1);
        x.table(0, 1, 1);
        x.add(0, 0, false, 1);
        x.times(0, 0, 2);
        x.turn(0, 3);
        for (int what = -1; what < 6; what++) {
            x.about(0, what);
            x.count(what);
        }
        x.within(0, 0);
        x.stair(9);
        x.sizes(9);
        x.kernel(9);
        x.back(0);
        x.dual(0);
        same("ANSWER behind all these", Due.told(x), was);
    }
}

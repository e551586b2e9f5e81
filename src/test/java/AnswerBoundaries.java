import java.math.BigInteger;

/** Promises 7 to 10 and 14: the ANSWER, and what is told of its numbers. */
final class AnswerBoundaries {
    private static final int LEAST = Integer.MIN_VALUE;
    private static final int MOST = Integer.MAX_VALUE;

    private final Boundary b;

    AnswerBoundaries(Boundary b) {
        this.b = b;
    }

    void all() {
        rowsAndColumns();
        answerOfOthers();
        aheadOfAny();
        withoutRows();
        theLatestStays();
        upToTenRows();
        signs();
        noSuchSign();
        words();
        wordsFromZeroOn();
        wordsBeyond();
        noSuchWords();
        lengths();
        noSuchLength();
        withoutBounds();
        rowsTogether();
        overRefused();
    }

    private static int[][] rows(int[]... rows) {
        return Boundary.rows(rows);
    }

    private static int[] row(int... numbers) {
        return Boundary.row(numbers);
    }

    private static LatticeBench told(int[]... rows) {
        LatticeBench x = Boundary.bench(rows, rows(new int[rows[0].length]));
        x.over(0, 1);
        return x;
    }

    private void rowsAndColumns() {
        b.says(7, "The ANSWER has so many rows (what 0), columns (1)");
        for (int columns = 1; columns <= 5; columns++) {
            for (int rows = 1; rows <= 5; rows++) {
                LatticeBench x = told(new int[rows][columns]);
                b.same("rows", x.answer(0), rows + 1);
                b.same("columns", x.answer(1), columns);
            }
        }
    }

    private void answerOfOthers() {
        b.says(7, "NONE for others");
        for (int what : new int[] {-1, 2, 3, LEAST, MOST}) {
            b.leaves("answer(" + what + ")", -1, x -> x.answer(what), rows(row(1, 2)));
        }
    }

    private void aheadOfAny() {
        b.says(7, ", and ahead of any.");
        LatticeBench x = new LatticeBench();
        for (int what : new int[] {0, 1, -1, 2, LEAST, MOST}) {
            b.same("answer(" + what + ") at first", x.answer(what), -1);
        }
        Boundary.bench(rows(row(1, 2), row(1, 3)), rows(row(1))).stair(0);
        LatticeBench y = Boundary.bench(rows(row(1, 2), row(1, 3)), rows(row(1)));
        y.about(0, 3);
        y.about(0, 4);
        y.add(0, 0, false, 2);
        y.times(0, 0, 3);
        y.turn(0, 4);
        y.within(0, 2);
        y.count(0);
        y.over(0, 1);
        y.stair(9);
        y.back(2);
        y.worth(9);
        y.solve(0, 1, 0);
        b.same("rows behind calls that tell nothing", y.answer(0), -1);
        b.same("columns behind calls that tell nothing", y.answer(1), -1);
        y.stair(0);
        b.same("rows then", y.answer(0), 2);
        b.same("columns then", y.answer(1), 2);
    }

    private void withoutRows() {
        b.says(7, "(without rows: without columns, too)");
        int[][] zeros = rows(row(0, 0, 0), row(0, 0, 0));
        b.tells("stair", 0, "0x0:", x -> x.stair(0), zeros);
        b.tells("sizes", 0, "0x0:", x -> x.sizes(0), zeros);
        b.tells("kernel", 0, "0x0:", x -> x.kernel(0), rows(row(1, 2, 3), row(4, 5, 6)));
        b.tells("reach", 1, "0x0:", x -> x.reach(0, 0, 0), zeros);
        b.tells("join", 0, "0x0:", x -> x.join(0, 0), zeros);
        b.tells("both", 0, "0x0:", x -> x.both(0, 1), zeros, rows(row(1, 2, 3)));
        b.tells("quotient", 0, "0x0:", x -> x.quotient(0, 0), zeros);
        LatticeBench x = Boundary.bench(zeros);
        x.over(0, 0);
        x.stair(0);
        b.same("rows", x.answer(0), 0);
        b.same("columns", x.answer(1), 0);
        b.same("sign", x.sign(0, 0), -2);
        b.same("bits", x.bits(0, 0, 0), 0);
        b.same("length", x.length(0, 0), -1);
    }

    private void theLatestStays() {
        b.says(7, "the latest one that was told stays.");
        LatticeBench x = Boundary.bench(rows(row(2, 4), row(6, 8)), rows(row(5, 5)), rows(row(1)));
        x.stair(0);
        x.over(0, 1);
        x.stair(0);
        String was = Due.told(x);
        b.same("the latest", was, "2x2: 2 0 / 0 4");
        x.leaf(0, 0, 1, 1, 0, 0, 0);
        x.tear(0, 1);
        x.table(0, 1, 2);
        x.add(0, 0, false, 3);
        x.times(0, 0, 3);
        x.turn(0, 3);
        x.within(0, 1);
        x.count(0);
        for (int what = 0; what < 5; what++) {
            x.about(1, what);
        }
        x.over(0, 2);
        x.worth(0);
        x.back(0);
        x.solve(0, 1, 0);
        x.reach(0, 1, 0);
        x.order(0, 1, 0);
        x.index(1, 0);
        x.index(0, 1);
        x.quotient(1, 0);
        x.dual(0);
        x.join(0, 2);
        b.same("behind calls that tell nothing", Due.told(x), was);
    }

    private void upToTenRows() {
        b.says(7, "ANSWERS are tables of whole numbers without bounds, of up to 10 rows and columns");
        LatticeBench x = Boundary.bench(Boundary.square(5, 1000, -1), Boundary.square(5, -1000, 1));
        x.over(0, 1);
        b.same("rows", x.answer(0), 10);
        b.same("columns", x.answer(1), 5);
        b.same("first", Due.number(x, 0, 0), BigInteger.valueOf(1000));
        b.same("last", Due.number(x, 9, 4), BigInteger.valueOf(-1000));
        b.same("behind the last row", x.sign(10, 0), -2);
    }

    private void signs() {
        b.says(8, "Sign of a number of the ANSWER: 1, 0, -1");
        LatticeBench x = told(row(1, 0, -1, 1000, -1000));
        int[] want = {1, 0, -1, 1, -1};
        for (int j = 0; j < 5; j++) {
            b.same("sign(0, " + j + ")", x.sign(0, j), want[j]);
            b.same("sign(1, " + j + ")", x.sign(1, j), 0);
        }
    }

    private interface Asking {
        int ask(LatticeBench x, int i, int j);
    }

    /** For an ANSWER of 2 rows and 3 columns, and for others. */
    private void noSuch(int want, Asking asking) {
        int[][] table = rows(row(1, 2, 3));
        for (int wrong : new int[] {-1, 10, 11, LEAST, MOST}) {
            b.leaves("row " + wrong, want, x -> asking.ask(x, wrong, 0), table);
            b.leaves("column " + wrong, want, x -> asking.ask(x, 0, wrong), table);
        }
        b.leaves("row 2 of 2", want, x -> asking.ask(x, 2, 0), table);
        b.leaves("column 3 of 3", want, x -> asking.ask(x, 0, 3), table);
        b.same("ahead of any", asking.ask(Boundary.bench(table), 0, 0), want);
        LatticeBench y = told(Boundary.square(5, 999, 998));
        y.reach(1, 1, 0);
        b.same("of an ANSWER without rows", asking.ask(y, 0, 0), want);
        y.order(1, 1, 0);
        b.same("a row of the ANSWER before", asking.ask(y, 1, 0), want);
        b.same("a column of the ANSWER before", asking.ask(y, 0, 1), want);
    }

    private void noSuchSign() {
        b.says(8, "-2 when there is none such.");
        noSuch(-2, (x, i, j) -> x.sign(i, j));
    }

    private static LatticeBench worth(int[][] rows) {
        LatticeBench x = Boundary.bench(rows);
        x.worth(0);
        return x;
    }

    /** Its WORTH is the product of the four less the corner. */
    private static int[][] ring(int a, int c, int d, int e, int corner) {
        return rows(row(a, 1, 0, 0), row(0, c, 1, 0), row(0, 0, d, 1), row(corner, 0, 0, e));
    }

    private void number(String name, LatticeBench x, int sign, int length, int... words) {
        b.same("sign of " + name, x.sign(0, 0), sign);
        b.same("length of " + name, x.length(0, 0), length);
        for (int k = 0; k < words.length; k++) {
            b.same("word " + k + " of " + name, x.bits(0, 0, k), words[k]);
        }
        for (int k : new int[] {words.length, words.length + 1, 10, 1 << 26, 1 << 27, MOST}) {
            b.same("word " + k + " of " + name, x.bits(0, 0, k), 0);
        }
    }

    private void words() {
        b.says(9, "Bits 32 k to 32 k + 31 of it, without sign");
        number("5", told(row(5)), 1, 3, 5);
        number("-5", told(row(-5)), -1, 3, 5);
        number("-1000", told(row(-1000)), -1, 10, 1000);
        number("2^31 - 1", worth(ring(256, 256, 256, 128, 1)), 1, 31, MOST);
        number("2^31", worth(ring(256, 256, 256, 128, 0)), 1, 32, LEAST);
        number("2^31 + 1", worth(ring(256, 256, 256, 128, -1)), 1, 32, LEAST + 1);
        number("-2^31", worth(ring(256, 256, 256, -128, 0)), -1, 32, LEAST);
        number("-2^31 - 1", worth(ring(256, 256, 256, -128, 1)), -1, 32, LEAST + 1);
        number("2^32 - 1", worth(ring(256, 256, 256, 256, 1)), 1, 32, -1);
        number("2^32", worth(ring(256, 256, 256, 256, 0)), 1, 33, 0, 1);
        number("2^32 + 1", worth(ring(256, 256, 256, 256, -1)), 1, 33, 1, 1);
        number("-2^32 + 1", worth(ring(256, 256, 256, -256, -1)), -1, 32, -1);
        number("-2^32", worth(ring(256, 256, 256, -256, 0)), -1, 33, 0, 1);
    }

    /** A lattice whose last LEAD is the number to the 5th. */
    private static int[][] fifthPower(int number) {
        return Boundary.steps(5, number, 1);
    }

    private static int word(BigInteger value, int k) {
        return value.shiftRight(32 * k).intValue();
    }

    private void wordsFromZeroOn() {
        b.says(9, "(k from 0 on");
        BigInteger value = BigInteger.valueOf(999).pow(5).multiply(BigInteger.valueOf(1000).pow(5));
        LatticeBench x = Boundary.bench(fifthPower(999), fifthPower(1000));
        b.same("both", x.both(0, 1), 5);
        for (int k = 0; k < 4; k++) {
            b.same("word " + k + " of 4", x.bits(4, 4, k), word(value, k));
        }
        b.same("the highest word", x.bits(4, 4, 3) > 0, true);
        for (int k : new int[] {-1, -2, -32, -(1 << 27), LEAST}) {
            b.same("word " + k, x.bits(4, 4, k), 0);
            b.leaves("word " + k + " of 7", 0, y -> y.bits(0, 0, k), rows(row(1)));
            b.leaves("word " + k + " of -8", 0, y -> y.bits(0, 2, k), rows(row(1)));
        }
    }

    private void wordsBeyond() {
        b.says(9, "; 0 beyond)");
        LatticeBench x = Boundary.bench(fifthPower(999), fifthPower(1000));
        x.both(0, 1);
        for (int k : new int[] {4, 5, 6, 100, 1 << 26, 1 << 27, (1 << 27) + 1, MOST}) {
            b.same("word " + k + " of a long one", x.bits(4, 4, k), 0);
            b.leaves("word " + k + " of 7", 0, y -> y.bits(0, 0, k), rows(row(1)));
            b.leaves("word " + k + " of -8", 0, y -> y.bits(0, 2, k), rows(row(1)));
        }
        x.over(0, 0);
        for (int k = 1; k < 5; k++) {
            b.same("word " + k + " of a short one where a long one stood", x.bits(4, 4, k), 0);
        }
        LatticeBench zero = told(row(0));
        for (int k = 0; k < 5; k++) {
            b.same("word " + k + " of 0", zero.bits(0, 0, k), 0);
        }
    }

    private void noSuchWords() {
        b.says(9, "; 0 when there is none such.");
        for (int k : new int[] {0, 1, -1, MOST}) {
            noSuch(0, (x, i, j) -> x.bits(i, j, k));
        }
    }

    private void lengths() {
        b.says(10, "How many bits it has without sign");
        int[] numbers = {0, 1, 2, 3, 4, 7, 8, 511, 512, 1000};
        int[] want = {0, 1, 2, 2, 3, 3, 4, 9, 10, 10};
        for (int k = 0; k < numbers.length; k++) {
            LatticeBench x = told(row(numbers[k], -numbers[k]));
            b.same("length of " + numbers[k], x.length(0, 0), want[k]);
            b.same("length of -" + numbers[k], x.length(0, 1), want[k]);
        }
        b.same("2^45", worth(Boundary.square(5, 512, 0)).length(0, 0), 46);
        b.same("-2^45", worth(Boundary.square(5, -512, 0)).length(0, 0), 46);
        LatticeBench x = Boundary.bench(fifthPower(999), fifthPower(1000));
        x.both(0, 1);
        b.same("999 to the 5th times 1000 to the 5th", x.length(4, 4), 100);
    }

    private void noSuchLength() {
        b.says(10, "NONE when there is none such.");
        noSuch(-1, (x, i, j) -> x.length(i, j));
    }

    private void withoutBounds() {
        b.says(9, "whole numbers without bounds");
        for (int number = 989; number < 1000; number += 2) {
            BigInteger value = BigInteger.valueOf(number).multiply(BigInteger.valueOf(number + 1)).pow(5);
            LatticeBench x = Boundary.bench(fifthPower(number), fifthPower(number + 1));
            x.both(0, 1);
            b.same("the last LEAD of both, of " + number, Due.number(x, 4, 4), value);
        }
        BigInteger most = BigInteger.valueOf(48).multiply(BigInteger.valueOf(1000).pow(5));
        LatticeBench x = worth(Boundary.square(5, -1000, 1000));
        b.same("the greatest WORTH", Due.number(x, 0, 0), most);
        LatticeBench y = worth(Boundary.square(5, 1000, -1000));
        b.same("the least WORTH", Due.number(y, 0, 0), most.negate());
    }

    private void rowsTogether() {
        b.says(14, "The ANSWER is what two TABLES' rows make together, as they are: "
                + "those of a, then those of b: true");
        int[][] one = rows(row(6, 4), null, row(-3, -2));
        int[][] two = rows(row(0, 5));
        b.tells("over", true, "4x2: 6 4 / 0 0 / -3 -2 / 0 5", x -> x.over(0, 1), one, two);
        b.tells("the other way", true, "4x2: 0 5 / 6 4 / 0 0 / -3 -2", x -> x.over(1, 0), one, two);
        b.tells("with itself", true, "2x2: 0 5 / 0 5", x -> x.over(1, 1), one, two);
        b.tells("0s", true, "2x1: 0 / 0", x -> x.over(0, 0), rows(row(0)));
        StringBuilder most = new StringBuilder("10x5:");
        for (int i = 0; i < 10; i++) {
            most.append(i > 0 ? " /" : "").append(i < 5 ? " 1000 1000 1000 1000 1000" : " 0 0 0 0 0");
        }
        b.tells("10 rows", true, most.toString(), x -> x.over(0, 1), Boundary.square(5, 1000, 1000),
                Boundary.square(5, 0, 0));
    }

    private void overRefused() {
        b.says(14, "false when there are none such");
        int[][] one = rows(row(1, 2));
        for (int t : Boundary.NO_TABLES) {
            b.leaves("first " + t, false, x -> x.over(t, 0), one);
            b.leaves("second " + t, false, x -> x.over(0, t), one);
            b.leaves("both " + t, false, x -> x.over(t, t), one);
        }
        b.says(14, ", or not of the same columns.");
        b.leaves("more", false, x -> x.over(0, 1), one, rows(row(1, 2, 3)));
        b.leaves("less", false, x -> x.over(0, 1), one, rows(row(1)));
        b.leaves("turned", false, x -> x.over(0, 1), one, rows(row(1), row(2)));
        b.leaves("one more than it has rows", false, x -> x.over(1, 0), one, rows(row(1), row(2)));
    }
}

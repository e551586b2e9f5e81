import java.math.BigInteger;

/** Counts the answers that are not as due, and reads a bench's ANSWER as a whole. */
final class Due {
    private final String name;
    private int wrong = 0;
    private int asked = 0;

    Due(String name) {
        this.name = name;
    }

    void same(String call, Object got, Object want) {
        asked++;
        if (!got.equals(want)) {
            wrong++;
            if (wrong <= 50) {
                System.out.println(name + ": " + call + " answered " + got + ", due is " + want);
            }
        }
    }

    void yes(String call, boolean got) {
        same(call, got, true);
    }

    void no(String call, boolean got) {
        same(call, got, false);
    }

    void end() {
        System.out.println(wrong == 0
                ? name + ": all " + asked + " answers are as due"
                : name + ": " + wrong + " of " + asked + " answers are not as due");
        if (wrong != 0) {
            System.exit(1);
        }
    }

    /** A number of the ANSWER, from its sign, its length and its bits. */
    static BigInteger number(LatticeBench bench, int i, int j) {
        int length = bench.length(i, j);
        BigInteger value = BigInteger.ZERO;
        for (int k = (length + 31) / 32; k >= 0; k--) {
            long word = bench.bits(i, j, k) & 0xffffffffL;
            value = value.shiftLeft(32).add(BigInteger.valueOf(word));
        }
        if (value.bitLength() != length) {
            return null;
        }
        return value.multiply(BigInteger.valueOf(bench.sign(i, j)));
    }

    /** All numbers of the ANSWER; null ahead of any. */
    static BigInteger[][] numbers(LatticeBench bench) {
        int rows = bench.answer(0);
        int columns = bench.answer(1);
        if (rows < 0) {
            return null;
        }
        BigInteger[][] numbers = new BigInteger[rows][columns];
        for (int i = 0; i < rows; i++) {
            for (int j = 0; j < columns; j++) {
                numbers[i][j] = number(bench, i, j);
            }
        }
        return numbers;
    }

    /** The whole ANSWER, such as "2x3: 1 0 4 / 0 2 1"; "none" ahead of any. */
    static String told(LatticeBench bench) {
        BigInteger[][] numbers = numbers(bench);
        return numbers == null ? "none" : text(numbers, bench.answer(1));
    }

    /** How many calls told() makes at most for an ANSWER of this text. */
    static int mostCallsToRead(String text) {
        int calls = 2;
        for (String number : text.split(" ")) {
            // Its length, its sign, a word beyond it, and a word for each 9 digits.
            calls += 3 + (number.length() + 8) / 9;
        }
        return calls;
    }

    static String text(BigInteger[][] numbers, int columns) {
        StringBuilder text = new StringBuilder();
        text.append(numbers.length).append('x').append(columns).append(':');
        for (int i = 0; i < numbers.length; i++) {
            text.append(i > 0 ? " /" : "");
            for (int j = 0; j < columns; j++) {
                text.append(' ').append(numbers[i][j]);
            }
        }
        return text.toString();
    }

    /** Makes a TABLE and all its LEAVES. */
    static void fill(LatticeBench bench, int t, int[][] rows) {
        bench.table(t, rows.length, rows[0].length);
        for (int i = 0; i < rows.length; i++) {
            int[] r = java.util.Arrays.copyOf(rows[i], 5);
            bench.leaf(t, i, r[0], r[1], r[2], r[3], r[4]);
        }
    }
}

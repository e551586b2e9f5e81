import java.lang.reflect.Constructor;
import java.lang.reflect.Field;
import java.lang.reflect.Method;
import java.math.BigInteger;
import java.util.Random;

/**
 * Holds the numbers of any length inside the class against BigInteger. The public face seldom
 * comes to the rare ways of long division, so they are called directly.
 */
public final class LongNumbersTest {
    private static final int BITS = 31;
    private static final int MASK = Integer.MAX_VALUE;
    private static final int[] EDGES = {0, 1, 2, MASK, MASK - 1, 1 << 30, (1 << 30) - 1, (1 << 30) + 1};

    private final Due due = new Due("LongNumbersTest");
    private final Random random = new Random(5);
    private final Class<?> whole = Class.forName("LatticeBench$Whole");
    private final Constructor<?> makeWhole = whole.getDeclaredConstructor();
    private final Field sign = open(whole.getDeclaredField("sign"));
    private final Field size = open(whole.getDeclaredField("size"));
    private final Field limbs = open(whole.getDeclaredField("limbs"));
    private final Class<?> desk = Class.forName("LatticeBench$Desk");
    private final Constructor<?> makeDesk = desk.getDeclaredConstructor();

    private LongNumbersTest() throws ReflectiveOperationException {
        makeWhole.setAccessible(true);
        makeDesk.setAccessible(true);
    }

    public static void main(String[] args) throws ReflectiveOperationException {
        LongNumbersTest test = new LongNumbersTest();
        test.tryLongs();
        test.tryDivisions();
        test.trySumsAndProducts();
        test.due.end();
    }

    private static Field open(Field field) {
        field.setAccessible(true);
        return field;
    }

    private static Method open(Class<?> owner, String name, Class<?>... types)
            throws ReflectiveOperationException {
        Method method = owner.getDeclaredMethod(name, types);
        method.setAccessible(true);
        return method;
    }

    private Object toWhole(BigInteger value) throws ReflectiveOperationException {
        Object out = makeWhole.newInstance();
        int length = (value.abs().bitLength() + BITS - 1) / BITS;
        int[] parts = new int[Math.max(4, length)];
        for (int k = 0; k < length; k++) {
            parts[k] = value.abs().shiftRight(BITS * k).intValue() & MASK;
        }
        sign.setInt(out, value.signum());
        size.setInt(out, length);
        limbs.set(out, parts);
        return out;
    }

    /** Null if the number is not in its one form: a limb below 0, or 0 at the top, or a wrong sign. */
    private BigInteger toBig(Object number) throws ReflectiveOperationException {
        int[] parts = (int[]) limbs.get(number);
        int length = size.getInt(number);
        BigInteger value = BigInteger.ZERO;
        for (int k = length - 1; k >= 0; k--) {
            if (parts[k] < 0) {
                return null;
            }
            value = value.shiftLeft(BITS).add(BigInteger.valueOf(parts[k]));
        }
        boolean oneForm = length == 0 ? sign.getInt(number) == 0
                : parts[length - 1] != 0 && Math.abs(sign.getInt(number)) == 1;
        return oneForm ? value.multiply(BigInteger.valueOf(sign.getInt(number))) : null;
    }

    private BigInteger draw(int most) {
        BigInteger value = BigInteger.ZERO;
        int length = random.nextInt(most + 1);
        boolean edgy = random.nextBoolean();
        for (int k = 0; k < length; k++) {
            int limb = edgy ? EDGES[random.nextInt(EDGES.length)] : random.nextInt() & MASK;
            value = value.shiftLeft(BITS).add(BigInteger.valueOf(limb));
        }
        return random.nextBoolean() ? value : value.negate();
    }

    private static BigInteger quotient(BigInteger a, BigInteger b) {
        if (b.signum() == 0) {
            return BigInteger.ZERO;
        }
        return a.subtract(a.mod(b.abs())).divide(b);
    }

    private void tryLongs() throws ReflectiveOperationException {
        Method put = open(whole, "put", long.class);
        Method word = open(whole, "word", int.class);
        Method bitLength = open(whole, "bitLength");
        long[] values = {0, 1, -1, MASK, MASK + 1L, -MASK - 1L, 1L << 62, -(1L << 62),
            Long.MAX_VALUE, Long.MIN_VALUE, 1L << 31, 1L << 32, (1L << 32) - 1};
        for (long value : values) {
            Object number = makeWhole.newInstance();
            put.invoke(number, value);
            due.same("put " + value, String.valueOf(toBig(number)), String.valueOf(value));
        }
        for (int round = 0; round < 2000; round++) {
            BigInteger value = draw(9);
            Object number = toWhole(value);
            due.same("length of " + value, bitLength.invoke(number), value.abs().bitLength());
            for (int k = 0; k < 11; k++) {
                due.same("word " + k + " of " + value, word.invoke(number, k),
                        value.abs().shiftRight(32 * k).intValue());
            }
            due.same("word far out", word.invoke(number, Integer.MAX_VALUE), 0);
        }
    }

    private void tryDivisions() throws ReflectiveOperationException {
        Method divide = open(desk, "divide", whole, whole, whole);
        Method findShared = open(desk, "findShared", whole, whole, whole);
        Object tools = makeDesk.newInstance();
        Object out = makeWhole.newInstance();
        for (int round = 0; round < 200000; round++) {
            BigInteger b = draw(5);
            BigInteger a = round % 3 == 0 ? b.multiply(draw(4)).add(draw(1)) : draw(9);
            divide.invoke(tools, toWhole(a), toWhole(b), out);
            due.same(a + " / " + b, String.valueOf(toBig(out)), String.valueOf(quotient(a, b)));
            if (round % 10 == 0) {
                findShared.invoke(tools, toWhole(a), toWhole(b), out);
                due.same("shared by " + a + ", " + b, String.valueOf(toBig(out)),
                        String.valueOf(a.gcd(b)));
            }
        }
        // A guess of a digit that the limbs behind the first two make 1 too high.
        BigInteger base = BigInteger.ONE.shiftLeft(BITS);
        BigInteger half = base.shiftRight(1);
        BigInteger a = half.multiply(base.pow(3)).subtract(BigInteger.ONE).multiply(base);
        BigInteger b = half.multiply(base.pow(2)).add(BigInteger.ONE);
        for (int k = 0; k < 60; k++) {
            BigInteger c = a.add(BigInteger.valueOf(k - 30).multiply(base));
            divide.invoke(tools, toWhole(c), toWhole(b), out);
            due.same(c + " / " + b, String.valueOf(toBig(out)), String.valueOf(quotient(c, b)));
        }
    }

    private void trySumsAndProducts() throws ReflectiveOperationException {
        Method plus = open(whole, "plus", whole, int.class);
        Method product = open(whole, "product", whole, whole);
        Object out = makeWhole.newInstance();
        for (int round = 0; round < 100000; round++) {
            BigInteger a = draw(6);
            BigInteger b = round % 9 == 0 ? a.add(draw(1)) : draw(6);
            Object sum = toWhole(a);
            Object less = toWhole(a);
            plus.invoke(sum, toWhole(b), 1);
            plus.invoke(less, toWhole(b), -1);
            product.invoke(out, toWhole(a), toWhole(b));
            due.same(a + " + " + b, String.valueOf(toBig(sum)), String.valueOf(a.add(b)));
            due.same(a + " - " + b, String.valueOf(toBig(less)), String.valueOf(a.subtract(b)));
            due.same(a + " * " + b, String.valueOf(toBig(out)), String.valueOf(a.multiply(b)));
        }
    }
}

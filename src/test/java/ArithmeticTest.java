import java.lang.reflect.Method;
import java.util.Random;

/** LEFT and BITS, which the class makes of + - * / alone, against Java's own, over bits of every kind. */
public final class ArithmeticTest {
    private static final int ROUNDS = 300_000;

    private static Method helper(String name, Class<?>... types) throws ReflectiveOperationException {
        Method method = TapeDecks.class.getDeclaredMethod(name, types);
        method.setAccessible(true);
        return method;
    }

    private static final double[] EDGES = {
        0.0, -0.0, Double.MIN_VALUE, -Double.MIN_VALUE, 3 * Double.MIN_VALUE, Double.MIN_NORMAL,
        Math.nextDown(Double.MIN_NORMAL), -Double.MIN_NORMAL, 2 * Double.MIN_NORMAL, 1.0, -1.0, Math.nextUp(1.0),
        Math.nextDown(1.0), 4096.0, Math.nextDown(4096.0), 0.001, 2147483.647, 1L << 52, 1L << 53, (1L << 53) - 1.0,
        Double.MAX_VALUE, -Double.MAX_VALUE, Math.nextDown(Double.MAX_VALUE), Double.MAX_VALUE / 2, 0x1p1023,
        Double.POSITIVE_INFINITY, Double.NEGATIVE_INFINITY
    };
    private static final float[] FLOAT_EDGES = {
        0.0f, -0.0f, Float.MIN_VALUE, -Float.MIN_VALUE, Float.MIN_NORMAL, Math.nextDown(Float.MIN_NORMAL), 1.0f, -1.0f,
        0.001f, 16777215f, 16777216f, 2147483.6f, Float.MAX_VALUE, -Float.MAX_VALUE, 0x1p127f,
        Float.POSITIVE_INFINITY, Float.NEGATIVE_INFINITY
    };

    /** Bits of every exponent alike, with few or many ones behind, and the edges now and then. */
    private static double anyDouble(Random random) {
        int sort = random.nextInt(8);
        if (sort == 0) {
            return EDGES[random.nextInt(EDGES.length)];
        }
        if (sort == 1) {
            return random.nextInt() / 1000.0;
        }
        if (sort == 2) {
            return Double.longBitsToDouble(random.nextLong() & 0x800FFFFFFFFFFFFFL);
        }
        double any = Double.longBitsToDouble(random.nextLong());
        return Double.isNaN(any) ? 1.0 : any;
    }

    private static float anyFloat(Random random) {
        int sort = random.nextInt(8);
        if (sort == 0) {
            return FLOAT_EDGES[random.nextInt(FLOAT_EDGES.length)];
        }
        if (sort == 1) {
            return random.nextInt() / 1000.0f;
        }
        if (sort == 2) {
            return Float.intBitsToFloat(random.nextInt() & 0x807FFFFF);
        }
        float any = Float.intBitsToFloat(random.nextInt());
        return Float.isNaN(any) ? 1.0f : any;
    }

    private static void bits(Random random) throws ReflectiveOperationException {
        Method doubleBits = helper("doubleBits", double.class);
        Method floatBits = helper("floatBits", float.class);
        for (double x : EDGES) {
            Due.is("BITS of " + x, (long) doubleBits.invoke(null, x), Double.doubleToRawLongBits(x));
        }
        for (float x : FLOAT_EDGES) {
            Due.is("BITS of the float " + x, (long) floatBits.invoke(null, x), Float.floatToRawIntBits(x));
        }
        for (int k = 0; k < ROUNDS; k++) {
            double x = anyDouble(random);
            Due.is("BITS of " + x, (long) doubleBits.invoke(null, x), Double.doubleToRawLongBits(x));
            float f = anyFloat(random);
            Due.is("BITS of the float " + f, (long) floatBits.invoke(null, f), Float.floatToRawIntBits(f));
        }
    }

    private static void leftIsDue(Method leftOf, double x, double y) throws ReflectiveOperationException {
        if (!Double.isInfinite(x) && y != 0.0) {
            double got = (double) leftOf.invoke(null, x, y);
            Due.is("LEFT of " + x + " by " + y, Double.doubleToRawLongBits(got), Double.doubleToRawLongBits(x % y));
        }
    }

    private static void floatLeftIsDue(Method leftOf, float x, float y) throws ReflectiveOperationException {
        if (!Float.isInfinite(x) && y != 0.0f) {
            float got = (float) (double) leftOf.invoke(null, (double) x, (double) y);
            Due.is("LEFT of the float " + x + " by " + y, Float.floatToRawIntBits(got), Float.floatToRawIntBits(x % y));
        }
    }

    private static void lefts(Random random) throws ReflectiveOperationException {
        Method leftOf = helper("leftOf", double.class, double.class);
        for (double x : EDGES) {
            for (double y : EDGES) {
                leftIsDue(leftOf, x, y);
            }
        }
        for (float x : FLOAT_EDGES) {
            for (float y : FLOAT_EDGES) {
                floatLeftIsDue(leftOf, x, y);
            }
        }
        for (int k = 0; k < ROUNDS; k++) {
            double x = anyDouble(random);
            leftIsDue(leftOf, x, anyDouble(random));
            leftIsDue(leftOf, x, x * random.nextDouble());
            float f = anyFloat(random);
            floatLeftIsDue(leftOf, f, anyFloat(random));
            floatLeftIsDue(leftOf, f, f * random.nextFloat());
        }
    }

    public static void main(String[] args) throws ReflectiveOperationException {
        Random random = new Random(20261119);
        bits(random);
        lefts(random);
        Due.end();
    }
}

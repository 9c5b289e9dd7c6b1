import java.util.Random;

/** The reckoning of doubles by whole numbers against the machine's own. */
public final class RealTest {
    private static int wrong = 0;

    private static final double[] EDGES = {0.0, -0.0, 1.0, -1.0, 0.5, -0.5, 1.5, 2.5, -2.5, 3.0, 10.0, 1000.0, 0.1, 1e-310,
        -1e-310, Double.MIN_VALUE, -Double.MIN_VALUE, Double.MIN_NORMAL, Double.MAX_VALUE, -Double.MAX_VALUE, Double.NaN,
        Double.POSITIVE_INFINITY, Double.NEGATIVE_INFINITY, 4503599627370495.5, 4503599627370496.0, 9007199254740993.0,
        9.223372036854775807e18, -9.223372036854775808e18, 9.3e18, 2147483647.0, 2147483648.5, -2147483649.0, 3.4028235e38,
        3.4028235677973366e38, 3.40282356e38, 1.4e-45, 7e-46, 7.1e-46, 1.1754943508222875e-38, 65535.9, -129.5, 1e22, 1e23};
    private static final long[] WHOLES = {0, 1, -1, 255, 256, 300, -129, 65535, 65536, 70000, 16777217, 16777219, 33554435,
        9007199254740993L, 9007199254740995L, -9007199254740993L, Long.MAX_VALUE, Long.MIN_VALUE, Long.MIN_VALUE + 1,
        9223371761976868863L, 9223371761976868864L, 1000000000000L, Integer.MAX_VALUE, Integer.MIN_VALUE};

    private static long bits(double d) {
        return Double.doubleToLongBits(d);
    }

    private static void due(String what, long got, long want) {
        if (got != want) {
            wrong++;
            if (wrong < 50) {
                System.out.println(what + " is " + Long.toHexString(got) + ", due " + Long.toHexString(want));
            }
        }
    }

    private static void ofTwo(double a, double b) {
        long x = bits(a);
        long y = bits(b);
        String pair = "(" + a + ", " + b + ")";
        due("add" + pair, GapHouse.Real.add(x, y), bits(a + b));
        due("subtract" + pair, GapHouse.Real.add(x, GapHouse.Real.negative(y)), bits(a - b));
        due("multiply" + pair, GapHouse.Real.multiply(x, y), bits(a * b));
        due("divide" + pair, GapHouse.Real.divide(x, y), bits(a / b));
        due("remain" + pair, GapHouse.Real.remain(x, y), bits(a % b));
        due("lesser" + pair, GapHouse.Real.lesser(x, y), bits(Math.min(a, b)));
        due("greater" + pair, GapHouse.Real.greater(x, y), bits(Math.max(a, b)));
        if (a == a && b == b) {
            due("compare" + pair, Integer.signum(GapHouse.Real.compare(x, y)), a < b ? -1 : a > b ? 1 : 0);
        }
    }

    private static void ofOne(double a) {
        long x = bits(a);
        due("floor " + a, GapHouse.Real.floor(x), bits(Math.floor(a)));
        due("ceiling " + a, GapHouse.Real.ceiling(x), bits(Math.ceil(a)));
        due("rounded " + a, GapHouse.Real.rounded(x), bits(Math.rint(a)));
        due("signOf " + a, GapHouse.Real.signOf(x), bits(Math.signum(a)));
        due("negative " + a, GapHouse.Real.negative(x), bits(-a));
        due("size " + a, GapHouse.Real.size(x), bits(Math.abs(a)));
        due("marks " + a, GapHouse.Real.stored(0, x, true), a != 0.0 ? 1 : 0);
        due("bytes " + a, GapHouse.Real.stored(1, x, true), (byte) (int) a);
        due("shorts " + a, GapHouse.Real.stored(2, x, true), (short) (int) a);
        due("codes " + a, GapHouse.Real.stored(3, x, true), (char) (int) a);
        due("ints " + a, GapHouse.Real.stored(4, x, true), (int) a);
        due("longs " + a, GapHouse.Real.stored(5, x, true), (long) a);
        due("floats " + a, GapHouse.Real.stored(6, x, true), bits((float) a));
        due("doubles " + a, GapHouse.Real.stored(7, x, true), bits(a));
    }

    private static void ofWhole(long v) {
        due("marks " + v, GapHouse.Real.stored(0, v, false), v != 0 ? 1 : 0);
        due("bytes " + v, GapHouse.Real.stored(1, v, false), (byte) v);
        due("shorts " + v, GapHouse.Real.stored(2, v, false), (short) v);
        due("codes " + v, GapHouse.Real.stored(3, v, false), (char) v);
        due("ints " + v, GapHouse.Real.stored(4, v, false), (int) v);
        due("longs " + v, GapHouse.Real.stored(5, v, false), v);
        due("floats " + v, GapHouse.Real.stored(6, v, false), bits((float) v));
        due("doubles " + v, GapHouse.Real.stored(7, v, false), bits((double) v));
        due("thousandths " + v, GapHouse.Real.thousandths(v), bits(v / 1000.0));
    }

    private static double any(Random random) {
        switch (random.nextInt(7)) {
            case 0:
                return Double.longBitsToDouble(random.nextLong());
            case 1:
                return EDGES[random.nextInt(EDGES.length)];
            case 2:
                return random.nextInt(2001) / 4.0 - 250;
            case 3:
                return Double.longBitsToDouble(random.nextLong() & 0x800fffffffffffffL | (long) random.nextInt(4) << 52);
            case 4:
                return Double.longBitsToDouble(random.nextLong() & 0x800fffffffffffffL | (long) (1000 + random.nextInt(80)) << 52);
            case 5:
                return sparse(random);
            default:
                return (random.nextLong() >> random.nextInt(64)) / 1000.0;
        }
    }

    /** All but a few bits alike: so what is cut off is often just a half, or a single bit off it. */
    private static double sparse(Random random) {
        long figure = random.nextBoolean() ? 0 : -1;
        for (int i = random.nextInt(4); i >= 0; i--) {
            figure ^= 1L << random.nextInt(52);
        }
        long field = random.nextInt(8) == 0 ? random.nextInt(2047) : 1023 + random.nextInt(120) - 60;
        return Double.longBitsToDouble(figure & 0x800fffffffffffffL | field << 52);
    }

    public static void main(String[] args) {
        for (double a : EDGES) {
            ofOne(a);
            for (double b : EDGES) {
                ofTwo(a, b);
            }
        }
        for (long v : WHOLES) {
            ofWhole(v);
        }
        Random random = new Random(7);
        for (int i = 0; i < 1000000; i++) {
            double a = any(random);
            double b = random.nextInt(4) == 0 ? a * (1 + (random.nextInt(5) - 2) * 0x1p-52) : any(random);
            ofTwo(a, b);
            ofOne(a);
            ofWhole(random.nextLong() >> random.nextInt(64));
        }
        System.out.println(wrong == 0 ? "all answers are as due" : wrong + " answers are not as due");
        if (wrong != 0) {
            System.exit(1);
        }
    }
}

import java.util.ArrayList;
import java.util.Arrays;
import java.util.List;
import java.util.Random;

/** Runs of random calls on the class and on the document written another way: each answer has to be the same. */
public final class AgainstOracleTest {
    private static final double[] REALS = {0.0, -0.0, 1.5, -2.25, Double.NaN, Double.POSITIVE_INFINITY, Double.NEGATIVE_INFINITY, 1e300, 300.7,
        -1e-320, 0.1, 65536.0, 1e19, 2.5, 3.0, 7.0};
    private static final long[] WHOLES = {0, 1, 2, 3, 5, 7, -1, -4, 300, 70000, Long.MAX_VALUE, Long.MIN_VALUE, 1L << 62, 4000000000L, 12, 16777217};
    private static final String[] NAMES = {"a", "b", "c", "d", "e", "f", "g", "h", "i", "j", "k", "l", "m", "n", "o", "p", "aa", "bbbbbb"};

    private static int wrong = 0;
    private static long runsOk = 0;
    private static long runsFound = 0;
    private static final long[] findings = new long[5];
    private static final long[] faults = new long[6];
    private static final long[] ways = new long[4];
    private static long resultRows = 0;

    private final Random random;
    private GapHouse house = new GapHouse();
    private Oracle oracle = new Oracle();
    private final List<String> calls = new ArrayList<>();
    private int used = 0;

    private AgainstOracleTest(long seed) {
        random = new Random(seed);
    }

    private long due(String call, long got, long want) {
        calls.add(call + " -> " + want);
        if (got != want) {
            wrong++;
            if (wrong < 4) {
                for (String c : calls.subList(Math.max(0, calls.size() - 60), calls.size())) {
                    System.out.println("  " + c);
                }
                System.out.println(call + " answered " + got + ", the oracle " + want);
            }
        }
        used++;
        return want;
    }

    private boolean chance(int percent) {
        return random.nextInt(100) < percent;
    }

    static long packed(String name) {
        long n = 0;
        for (char c : name.toCharArray()) {
            n = n << 8 | c;
        }
        return n;
    }

    /** Any number at all, those at the ends of the machine's more often. */
    private int extreme() {
        int[] ends = {Integer.MIN_VALUE, Integer.MAX_VALUE, Integer.MIN_VALUE + 1, -1, 6, 16, 65536, random.nextInt()};
        return ends[random.nextInt(ends.length)];
    }

    private int series() {
        return chance(99) ? random.nextInt(2) : extreme();
    }

    private int seg() {
        return chance(97) ? random.nextInt(Math.max(1, Math.max(oracle.count(0), oracle.count(1)))) : chance(50) ? random.nextInt(9) - 1 : extreme();
    }

    private int col() {
        return chance(98) ? random.nextInt(Math.max(1, oracle.count(4))) : chance(50) ? random.nextInt(20) - 2 : extreme();
    }

    private int row() {
        return chance(97) ? random.nextInt(8) : chance(50) ? random.nextInt(20) - 1 : extreme();
    }

    private long name() {
        if (chance(96)) {
            return packed(NAMES[random.nextInt(NAMES.length)]);
        }
        String[] odd = {"", "use", "abcdefg", "slash", "A", "a1", "is", "sum", "moment", "perhaps", "ksum"};
        return chance(80) ? packed(odd[random.nextInt(odd.length)]) : random.nextLong();
    }

    private boolean real;

    private long value() {
        real = chance(50);
        if (chance(50)) {
            return real ? Double.doubleToLongBits(random.nextInt(9) - 4) : random.nextInt(9) - 4;
        }
        return real ? Double.doubleToLongBits(REALS[random.nextInt(REALS.length)]) : WHOLES[random.nextInt(WHOLES.length)];
    }

    private long known() {
        return chance(95) ? random.nextInt(12) : chance(50) ? 1000000000000L : random.nextLong();
    }

    private void shapeCall() {
        int a;
        int b;
        int c;
        int d;
        long v;
        long n;
        switch (random.nextInt(40)) {
            case 0:
                a = series();
                due("segment(" + a + ")", house.segment(a), oracle.segment(a));
                break;
            case 1: case 2: case 3: case 4: case 5: case 6: case 7:
                a = series();
                b = seg();
                v = chance(99) ? random.nextInt(60) - 20 : random.nextLong();
                due("late(" + a + ", " + b + ", " + v + ")", house.late(a, b, v), oracle.late(a, b, v));
                break;
            case 8: case 9: case 10:
                a = series();
                n = name();
                b = chance(98) ? random.nextInt(8) : random.nextInt(12) - 2;
                due("plain(" + a + ", " + n + ", " + b + ")", house.plain(a, n, b), oracle.plain(a, n, b));
                break;
            case 11:
                a = series();
                n = name();
                v = chance(98) ? random.nextInt(9) - 4 : random.nextLong() >> random.nextInt(30);
                real = chance(50);
                due("constant(" + a + ", " + n + ", " + v + ", " + real + ")", house.constant(a, n, v, real), oracle.constant(a, n, v, real));
                break;
            case 12:
                n = name();
                a = col();
                b = chance(50) ? random.nextInt(5000) - 2000 : random.nextInt();
                c = random.nextInt(5000) - 2000;
                due("scaled(" + n + ", " + a + ", " + b + ", " + c + ")", house.scaled(n, a, b, c), oracle.scaled(n, a, b, c));
                break;
            case 13: case 14:
                n = name();
                a = col();
                b = col();
                c = chance(98) ? random.nextInt(5) : random.nextInt(9) - 2;
                due("derived(" + n + ", " + a + ", " + b + ", " + c + ")", house.derived(n, a, b, c), oracle.derived(n, a, b, c));
                break;
            case 15: case 16: case 17: case 18:
                a = col();
                b = seg();
                Oracle.Col of = oracle.col(a);
                c = of != null && chance(85) ? Math.min(of.sort, 7) : random.nextInt(10) - 1;
                d = chance(95) ? random.nextInt(17) : chance(50) ? random.nextInt(30) - 4 : extreme();
                due("put(" + a + ", " + b + ", " + c + ", " + d + ")", house.put(a, b, c, d), oracle.put(a, b, c, d));
                break;
            case 19: case 20: case 21: case 22: case 23: case 24: case 25: case 26:
                a = col();
                b = seg();
                c = row();
                v = value();
                due("store(" + a + ", " + b + ", " + c + ", " + v + ", " + real + ")", house.store(a, b, c, v, real), oracle.store(a, b, c, v, real));
                break;
            case 27:
                a = col();
                b = seg();
                due("drop(" + a + ", " + b + ")", house.drop(a, b), oracle.drop(a, b));
                break;
            case 28: case 29:
                a = col();
                v = value();
                due("spread(" + a + ", " + v + ", " + real + ")", house.spread(a, v, real), oracle.spread(a, v, real));
                break;
            case 30:
                a = series();
                b = seg();
                due("glue(" + a + ", " + b + ")", house.glue(a, b), oracle.glue(a, b));
                break;
            case 31:
                if (chance(30)) {
                    a = series();
                    b = chance(90) ? 2 + random.nextInt(3) : random.nextInt(13);
                    due("thin(" + a + ", " + b + ")", house.thin(a, b), oracle.thin(a, b));
                }
                break;
            case 32: case 33: case 34:
                a = col();
                b = seg();
                c = row();
                v = value();
                n = known();
                due("correct(" + a + ", " + b + ", " + c + ", " + v + ", " + real + ", " + n + ")", house.correct(a, b, c, v, real, n),
                    oracle.correct(a, b, c, v, real, n));
                break;
            case 35:
                if (chance(30)) {
                    due("mark()", house.mark(), oracle.mark());
                }
                break;
            case 36:
                if (chance(20)) {
                    a = chance(95) ? random.nextInt(4) - (chance(10) ? 1 : 0) : extreme();
                    due("undo(" + a + ")", house.undo(a), oracle.undo(a));
                }
                break;
            case 37:
                if (chance(1)) {
                    due("clear()", house.clear(), oracle.clear());
                }
                break;
            default:
                lookCall();
                break;
        }
    }

    private void lookCall() {
        int a = col();
        int b = seg();
        int c = row();
        long n = known();
        switch (random.nextInt(7)) {
            case 0:
                due("look(" + a + ", " + b + ", " + c + ", " + n + ")", house.look(a, b, c, n), oracle.look(a, b, c, n));
                break;
            case 1:
                due("read(" + a + ", " + b + ", " + c + ", " + n + ")", house.read(a, b, c, n), oracle.read(a, b, c, n));
                break;
            case 2:
                c = chance(90) ? random.nextInt(4) - 1 : extreme();
                due("array(" + a + ", " + b + ", " + c + ")", house.array(a, b, c), oracle.array(a, b, c));
                break;
            case 3:
                c = chance(90) ? random.nextInt(8) - 1 : extreme();
                due("told(" + a + ", " + c + ")", house.told(a, c), oracle.told(a, c));
                break;
            case 4:
                n = name();
                due("find(" + n + ")", house.find(n), oracle.find(n));
                break;
            case 5:
                a = series();
                due("moment(" + a + ", " + b + ", " + c + ")", house.moment(a, b, c), oracle.moment(a, b, c));
                break;
            default:
                a = chance(90) ? random.nextInt(12) - 1 : extreme();
                due("count(" + a + ")", house.count(a), oracle.count(a));
                break;
        }
    }

    private void feed(String text) {
        calls.add("text: " + text);
        byte[] b = Arrays.copyOf(Texts.bytes(text), (text.length() + 19) / 20 * 20);
        for (int i = 0; i < b.length; i += 20) {
            java.nio.ByteBuffer bb = java.nio.ByteBuffer.wrap(b, i, 20);
            int[] x = {bb.getInt(), bb.getInt(), bb.getInt(), bb.getInt(), bb.getInt()};
            due("feed", house.feed(x[0], x[1], x[2], x[3], x[4]), oracle.feed(x[0], x[1], x[2], x[3], x[4]));
        }
        int n = chance(99) ? text.length() : chance(70) ? text.length() + random.nextInt(40) - 20 : extreme();
        due("end(" + n + ")", house.end(n), oracle.end(n));
    }

    private void queryCall() {
        List<List<String>> names = new ArrayList<>();
        names.add(new ArrayList<>());
        names.add(new ArrayList<>());
        for (Oracle.Col c : oracle.s.cols) {
            names.get(c.series).add(c.name);
        }
        if (chance(98)) {
            house.end(0);
            oracle.end(0);
            used++;
        }
        feed(new Texts(random, names).next());
        long answer = due("query()", house.query(), oracle.query());
        faults[(int) due("fault()", house.fault(), oracle.fault())]++;
        if (answer >= 0) {
            runCall((int) answer);
        }
    }

    private void runCall(int query) {
        for (int way = -1; way < 5 && chance(30); way++) {
            due("cost(" + query + ", " + way + ")", house.cost(query, way), oracle.cost(query, way));
        }
        if (chance(20)) {
            int way = chance(80) ? random.nextInt(4) : chance(50) ? Oracle.NONE : extreme();
            due("force(" + query + ", " + way + ")", house.force(query, way), oracle.force(query, way));
        }
        due("way(" + query + ")", house.way(query), oracle.way(query));
        long rows = due("run(" + query + ")", house.run(query), oracle.run(query));
        if (rows >= 0) {
            runsOk++;
            resultRows += rows;
            ways[oracle.lastWay]++;
        } else if (rows > -100) {
            runsFound++;
            findings[(int) (-10 - rows)]++;
        }
        for (int what = -1; what < 6; what++) {
            due("ended(" + what + ")", house.ended(what), oracle.ended(what));
        }
        due("digest()", house.digest(), oracle.digest());
        for (int i = 0; i < 2; i++) {
            int r = chance(98) ? random.nextInt((int) Math.max(1, rows) + 1) - (chance(5) ? 1 : 0) : extreme();
            int j = chance(98) ? random.nextInt(4) - (chance(5) ? 1 : 0) : extreme();
            due("sort(" + r + ", " + j + ")", house.sort(r, j), oracle.sort(r, j));
            due("cell(" + r + ", " + j + ")", house.cell(r, j), oracle.cell(r, j));
            due("real(" + j + ")", house.real(j), oracle.real(j));
        }
    }

    /** Many ROWS with few values: joins and spans that grow too great, groups and likes. */
    private void fillUp() {
        int[] kinds = {1, 2, 4, 5, 6, 7, 4, 7, 0, 3};
        for (int s = 0; s < 2; s++) {
            for (int i = 0; i < 3; i++) {
                int kind = kinds[random.nextInt(kinds.length)];
                long n = packed(NAMES[s * 3 + i]);
                long c = due("plain", house.plain(s, n, kind), oracle.plain(s, n, kind));
                for (int g = 0; g < oracle.count(s); g++) {
                    for (int r = oracle.s.series.get(s).get(g).size(); r < 16 && chance(97); r++) {
                        long m = random.nextInt(chance(95) ? 50 : 5000);
                        due("late(" + s + ", " + g + ", " + m + ")", house.late(s, g, m), oracle.late(s, g, m));
                    }
                    int length = random.nextInt(17);
                    due("put", house.put((int) c, g, kind, length), oracle.put((int) c, g, kind, length));
                    for (int r = 0; r < length; r++) {
                        long v = chance(90) ? random.nextInt(5) : value();
                        boolean isReal = v > 4 && real;
                        due("store(" + c + ", " + g + ", " + r + ", " + v + ", " + isReal + ")", house.store((int) c, g, r, v, isReal),
                            oracle.store((int) c, g, r, v, isReal));
                    }
                }
            }
        }
        used = 0;
    }

    private void session(int most) {
        int ready = 40 + random.nextInt(120);
        for (int s = 0; s < 2; s++) {
            for (int i = random.nextInt(4); i >= 0; i--) {
                due("segment(" + s + ")", house.segment(s), oracle.segment(s));
            }
        }
        if (chance(50)) {
            fillUp();
        }
        while (used < most) {
            if (used < ready || chance(70)) {
                shapeCall();
            } else if (chance(70)) {
                queryCall();
            } else {
                runCall(chance(95) ? random.nextInt(Math.max(1, oracle.count(6))) : extreme());
            }
            if (oracle.count(6) == 8 && chance(5)) {
                due("clear()", house.clear(), oracle.clear());
            }
        }
    }

    public static void main(String[] args) {
        int sessions = args.length > 0 ? Integer.parseInt(args[0]) : 3000;
        long first = args.length > 1 ? Long.parseLong(args[1]) : 0;
        for (long seed = first; seed < first + sessions && wrong == 0; seed++) {
            AgainstOracleTest test = new AgainstOracleTest(seed);
            test.session(500);
            if (wrong > 0) {
                System.out.println("seed " + seed);
            }
        }
        System.out.println(runsOk + " runs with " + resultRows + " rows by ways " + Arrays.toString(ways) + ", " + runsFound + " with findings "
            + Arrays.toString(findings) + ", faults " + Arrays.toString(faults));
        System.out.println(wrong == 0 ? "all answers are as due" : wrong + " answers are not as due");
        if (wrong != 0) {
            System.exit(1);
        }
    }
}

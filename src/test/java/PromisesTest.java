/** Each promise of the document by its number: ordinary inputs, the edges that it names, wrong inputs. */
public final class PromisesTest {
    private static final int UNKNOWN = -101, OUTSIDE = -102, STATE = -103, ROOM = -104, NONE = -109;
    private static final long MOST = 1000000000000L;
    private static final long NO_NUMBER = 0x7ff8000000000000L;

    private static int wrong = 0;
    private static int promise = 0;
    private static GapHouse x;

    private static void due(String what, long got, long want) {
        if (got != want) {
            wrong++;
            System.out.println("promise " + promise + ": " + what + " answered " + got + ", due is " + want);
        }
    }

    private static void fresh(int number) {
        promise = number;
        x = new GapHouse();
    }

    private static long n(String name) {
        long n = 0;
        for (char c : name.toCharArray()) {
            n = n << 8 | c;
        }
        return n;
    }

    private static long d(double v) {
        return Double.doubleToLongBits(v);
    }

    /** Puts a text on the tape. */
    private static void tape(String text) {
        byte[] b = java.util.Arrays.copyOf(text.getBytes(java.nio.charset.StandardCharsets.ISO_8859_1), (text.length() + 19) / 20 * 20);
        x.end(0);
        for (int i = 0; i < b.length; i += 20) {
            java.nio.ByteBuffer w = java.nio.ByteBuffer.wrap(b, i, 20);
            x.feed(w.getInt(), w.getInt(), w.getInt(), w.getInt(), w.getInt());
        }
        due("end", x.end(text.length()), text.length());
    }

    private static int ask(String text) {
        tape(text);
        return x.query();
    }

    /** A text that has a FAULT: its number and place. */
    private static void faulty(String text, int fault, int place) {
        due("query of " + text, ask(text), -200 - place);
        due("fault of " + text, x.fault(), fault);
    }

    private static void right(String text) {
        due("query of " + text, ask(text) >= 0 ? 1 : 0, 1);
        due("fault of " + text, x.fault(), 0);
        dropQueries();
    }

    /** Queries can not be taken back but by clear(): the house is made anew where there is no more room. */
    private static void dropQueries() {
        if (x.count(6) == 8) {
            house();
        }
    }

    private static String row(int i) {
        StringBuilder b = new StringBuilder();
        for (int j = 0; j < x.ended(3); j++) {
            b.append(j == 0 ? "" : " ");
            int sort = x.sort(i, j);
            b.append(sort == 0 ? x.real(j) == 1 ? "" + Double.longBitsToDouble(x.cell(i, j)) : "" + x.cell(i, j) : "#" + sort);
        }
        return b.toString();
    }

    /** A text, asked and run: its ROWS, parted by |; or !FINDING@place. */
    private static void gives(String text, String want) {
        if (x.count(8) == 150 || x.count(6) == 8) {
            house();
        }
        int q = ask(text);
        if (q < 0) {
            due("query of " + text + " (fault " + x.fault() + ")", q, 0);
            return;
        }
        int rows = x.run(q);
        StringBuilder b = new StringBuilder();
        for (int i = 0; i < rows; i++) {
            b.append(i == 0 ? "" : "|").append(row(i));
        }
        String got = rows < 0 ? "!" + x.ended(0) + "@" + x.ended(1) : b.toString();
        if (!got.equals(want)) {
            wrong++;
            System.out.println("promise " + promise + ": " + text + "\n   gave " + got + "\n   due  " + want);
        }
        if (rows < 0) {
            due("run", rows, -10 - x.ended(0));
        }
    }

    private static Runnable maker;

    private static void house() {
        x = new GapHouse();
        maker.run();
    }

    private static void use(int number, Runnable how) {
        promise = number;
        maker = how;
        house();
    }

    private static void ints(int column, int segment, int... values) {
        x.put(column, segment, x.told(column, 1), values.length);
        for (int i = 0; i < values.length; i++) {
            x.store(column, segment, i, values[i], false);
        }
    }

    private static void reals(int column, int segment, double... values) {
        x.put(column, segment, x.told(column, 1), values.length);
        for (int i = 0; i < values.length; i++) {
            x.store(column, segment, i, d(values[i]), true);
        }
    }

    private static void rows(int series, int segment, long... moments) {
        for (long m : moments) {
            x.late(series, segment, m);
        }
    }

    /**
     * SERIES 0: ROWS at 30 10 20 20 and, in SEGMENT 1, 40 50: a ints 3 1 2 2 5 (one short), r doubles, m marks, c codes,
     * l longs (NOTHING in SEGMENT 0, another KIND in 1), k constant 7, s = a * 2 + 0.5, q = a / z, z ints with a 0.
     * SERIES 1: ROWS at 15 25 25 60: b ints 1 2 3 9, t doubles.
     */
    private static void sample() {
        x.segment(0);
        x.segment(0);
        x.segment(1);
        rows(0, 0, 30, 10, 20, 20);
        rows(0, 1, 40, 50);
        rows(1, 0, 15, 25, 25, 60);
        x.plain(0, n("a"), 4);
        x.plain(0, n("r"), 7);
        x.plain(0, n("m"), 0);
        x.plain(0, n("c"), 3);
        x.plain(0, n("l"), 5);
        x.constant(0, n("k"), 7, false);
        x.scaled(n("s"), 0, 2000, 500);
        x.plain(0, n("z"), 4);
        x.derived(n("q"), 0, 7, 3);
        x.plain(1, n("b"), 4);
        x.plain(1, n("t"), 7);
        x.scaled(n("sc"), 3, 1000, 0);
        ints(0, 0, 3, 1, 2, 2);
        ints(0, 1, 5);
        reals(1, 0, 1.5, -0.0, Double.NaN, 4.25);
        reals(1, 1, 0.0, 100);
        ints(2, 0, 1, 0, 1, 1);
        ints(2, 1, 0, 0);
        ints(3, 0, 65, 66, 65, 67);
        x.put(4, 1, 4, 2);
        ints(7, 0, 1, 1, 0, 2);
        ints(7, 1, 5, 5);
        ints(9, 0, 1, 2, 3, 9);
        reals(10, 0, 1, 2, 5, 0.5);
    }

    // ---- the promises

    private static void newObject() {
        fresh(1);
        for (int what = 0; what < 10; what++) {
            due("count(" + what + ")", x.count(what), 0);
        }
        due("fault", x.fault(), 0);
        due("ended(0)", x.ended(0), 0);
        due("ended(1)", x.ended(1), NONE);
        due("ended(2)", x.ended(2), NONE);
        due("ended(3)", x.ended(3), 0);
        due("ended(4)", x.ended(4), 0);
        due("digest", x.digest(), 17);
        due("UNKNOWN", GapHouse.UNKNOWN, UNKNOWN);
        due("OUTSIDE", GapHouse.OUTSIDE, OUTSIDE);
        due("STATE", GapHouse.STATE, STATE);
        due("ROOM", GapHouse.ROOM, ROOM);
        due("NONE", GapHouse.NONE, NONE);
    }

    private static void tapeCalls() {
        fresh(2);
        // "use 0;give moment;  " highest byte first
        due("feed", x.feed(0x75736520, 0x303b6769, 0x7665206d, 0x6f6d656e, 0x743b2020), 20);
        due("query", x.query(), 0);
        for (int i = 1; i <= 30; i++) {
            due("feed " + i, x.feed(-1, 0, 1, 2, 3), 20 * i);
        }
        due("feed 31", x.feed(0, 0, 0, 0, 0), ROOM);
        due("count(9)", x.count(9), 600);
        fresh(3);
        due("end(0)", x.end(0), 0);
        due("end(1)", x.end(1), OUTSIDE);
        due("end(-1)", x.end(-1), OUTSIDE);
        x.feed(0x75736520, 0, 0, 0, 0);
        due("end(21)", x.end(21), OUTSIDE);
        due("end(3)", x.end(3), 3);
        due("count(9)", x.count(9), 3);
        due("feed", x.feed(0, 0, 0, 0, 0), 23);
        for (int i = 0; i < 28; i++) {
            x.feed(0, 0, 0, 0, 0);
        }
        due("583 bytes", x.count(9), 583);
        due("feed", x.feed(0, 0, 0, 0, 0), ROOM);
    }

    private static void segments() {
        fresh(4);
        due("segment(2)", x.segment(2), UNKNOWN);
        due("segment(-1)", x.segment(-1), UNKNOWN);
        x.plain(0, n("a"), 4);
        for (int i = 0; i < 6; i++) {
            due("segment", x.segment(0), i);
            due("NOTHING", x.array(0, i, 0), NONE);
        }
        due("seventh", x.segment(0), ROOM);
        due("other", x.segment(1), 0);
        fresh(5);
        due("late", x.late(0, 0, 1), UNKNOWN);
        x.segment(0);
        due("late", x.late(1, 0, 1), UNKNOWN);
        due("late", x.late(0, 1, 1), UNKNOWN);
        due("late", x.late(0, -1, 1), UNKNOWN);
        due("late", x.late(2, 0, 1), UNKNOWN);
        due("late", x.late(0, 0, MOST + 1), OUTSIDE);
        due("late", x.late(0, 0, -MOST - 1), OUTSIDE);
        due("late", x.late(0, 0, Long.MIN_VALUE), OUTSIDE);
        due("late", x.late(0, 0, MOST), 0);
        due("late", x.late(0, 0, -MOST), 1);
        for (int i = 2; i < 16; i++) {
            due("late", x.late(0, 0, 5), i);
        }
        due("late", x.late(0, 0, 5), ROOM);
        due("late", x.late(0, 0, MOST + 1), OUTSIDE);
        due("count(2)", x.count(2), 16);
    }

    private static void columns() {
        fresh(6);
        due("plain", x.plain(2, n("a"), 0), UNKNOWN);
        due("plain", x.plain(0, 0, 0), OUTSIDE);
        due("plain", x.plain(0, n("abcdefg"), 0), OUTSIDE);
        due("plain", x.plain(0, n("aB"), 0), OUTSIDE);
        due("plain", x.plain(0, n("a") << 8, 0), OUTSIDE);
        due("plain", x.plain(0, n("a\0b"), 0), OUTSIDE);
        due("plain", x.plain(0, n("a") | 1L << 56, 0), OUTSIDE);
        due("plain", x.plain(0, -1, 0), OUTSIDE);
        String words = "use known from to join on near let fill last line where or and not is there missing beyond other unlike group all "
            + "span count time sort down first give moment min max abs floor ceil round sign diff cum quant sum ksum mean var least great "
            + "median slope base";
        for (String word : words.split(" ")) {
            due("plain " + word, x.plain(0, n(word), 0), OUTSIDE);
        }
        due("plain", x.plain(0, n("a"), 8), OUTSIDE);
        due("plain", x.plain(0, n("a"), -1), OUTSIDE);
        due("plain", x.plain(0, n("a"), 7), 0);
        due("plain", x.plain(1, n("a"), 7), STATE);
        due("plain", x.plain(1, n("a"), 8), OUTSIDE);
        due("plain", x.plain(1, n("abcdef"), 7), 1);
        for (int i = 2; i < 16; i++) {
            due("plain", x.plain(i % 2, n("z" + (char) ('a' + i)), i % 8), i);
        }
        due("plain", x.plain(0, n("y"), 0), ROOM);
        due("plain", x.plain(0, n("a"), 0), STATE);
        fresh(7);
        due("constant", x.constant(2, n("a"), 1, false), UNKNOWN);
        due("constant", x.constant(0, n("is"), 1, false), OUTSIDE);
        due("constant", x.constant(0, n("a"), MOST + 1, false), OUTSIDE);
        due("constant", x.constant(0, n("a"), -MOST - 1, true), OUTSIDE);
        due("constant", x.constant(0, n("a"), Long.MIN_VALUE, true), OUTSIDE);
        due("constant", x.constant(0, n("a"), -MOST, false), 0);
        due("constant", x.constant(1, n("a"), 1, false), STATE);
        due("constant", x.constant(0, n("b"), 1, true), 1);
        x.segment(0);
        x.late(0, 0, 1);
        due("read", x.read(0, 0, 0, 0), -MOST);
        due("read", x.read(1, 0, 0, 0), d(0.001));
        due("told", x.told(1, 4), 1);
        for (int i = 2; i < 16; i++) {
            x.constant(0, n("z" + (char) ('a' + i)), 0, false);
        }
        due("constant", x.constant(0, n("y"), 0, false), ROOM);
    }

    private static void scaledAndDerived() {
        fresh(8);
        x.segment(0);
        x.late(0, 0, 1);
        x.late(0, 0, 1);
        x.plain(0, n("a"), 4);
        x.plain(0, n("c"), 3);
        due("scaled", x.scaled(n("s"), 2, 1, 1), UNKNOWN);
        due("scaled", x.scaled(n("s"), -1, 1, 1), UNKNOWN);
        due("scaled", x.scaled(n("sum"), 0, 1, 1), OUTSIDE);
        due("scaled", x.scaled(n("a"), 0, 1, 1), STATE);
        due("scaled", x.scaled(n("s"), 0, 1500, -250), 2);
        due("scaled", x.scaled(n("t"), 2, Integer.MIN_VALUE, Integer.MAX_VALUE), 3);
        due("scaled", x.scaled(n("u"), 1, 1000, 0), 4);
        ints(0, 0, 3);
        due("read", x.read(2, 0, 0, 0), d(3 * 1.5 + -0.25));
        due("read", x.read(3, 0, 0, 0), d((3 * 1.5 + -0.25) * (Integer.MIN_VALUE / 1000.0) + Integer.MAX_VALUE / 1000.0));
        due("look", x.look(3, 0, 1, 0), 2);
        due("look", x.look(4, 0, 0, 0), -3);
        due("read", x.read(4, 0, 0, 0), 0);
        for (int i = 5; i < 16; i++) {
            due("scaled", x.scaled(n("z" + (char) ('a' + i)), i - 1, 1000, 0), i);
        }
        due("scaled", x.scaled(n("y"), 0, 1, 1), ROOM);
        due("sixteen deep", x.look(15, 0, 0, 0), -3);
        fresh(9);
        x.segment(0);
        rows(0, 0, 1, 2, 3);
        x.plain(0, n("a"), 5);
        x.plain(0, n("b"), 5);
        x.plain(1, n("c"), 5);
        x.plain(0, n("d"), 7);
        due("derived", x.derived(n("e"), 0, 4, 0), UNKNOWN);
        due("derived", x.derived(n("e"), 4, 0, 0), UNKNOWN);
        due("derived", x.derived(n("e"), 0, 2, 0), OUTSIDE);
        due("derived", x.derived(n("e"), 0, 1, 5), OUTSIDE);
        due("derived", x.derived(n("e"), 0, 1, -1), OUTSIDE);
        due("derived", x.derived(n("use"), 0, 1, 1), OUTSIDE);
        due("derived", x.derived(n("a"), 0, 1, 1), STATE);
        for (int act = 0; act < 5; act++) {
            due("derived", x.derived(n("f" + (char) ('a' + act)), 0, 1, act), 4 + act);
        }
        due("derived", x.derived(n("e"), 4, 0, 0), STATE);
        due("derived", x.derived(n("e"), 0, 3, 4), 9);
        due("derived", x.derived(n("g"), 0, 0, 2), 10);
        due("told", x.told(9, 4), 1);
        due("told", x.told(4, 4), 0);
        x.put(0, 0, 5, 3);
        x.put(1, 0, 5, 2);
        x.put(3, 0, 7, 3);
        x.store(0, 0, 0, -7, false);
        x.store(1, 0, 0, 2, false);
        x.store(3, 0, 0, d(2.5), true);
        long[] want = {-5, -9, -14, -3, -1};
        for (int act = 0; act < 5; act++) {
            due("read", x.read(4 + act, 0, 0, 0), want[act]);
        }
        due("read", x.read(9, 0, 0, 0), d(-7.0 % 2.5));
        due("by zero", x.look(7, 0, 1, 0), -2);
        due("by zero", x.look(8, 0, 1, 0), -2);
        due("reals by zero", x.look(9, 0, 1, 0), 4);
        due("right absent", x.look(7, 0, 2, 0), 2);
        x.store(0, 0, 0, Long.MIN_VALUE, false);
        x.store(1, 0, 0, -1, false);
        due("overflow", x.look(4, 0, 0, 0), -1);
        due("least less -1", x.look(5, 0, 0, 0), 0);
        due("overflow", x.look(6, 0, 0, 0), -1);
        due("overflow", x.look(7, 0, 0, 0), -1);
        due("least % -1", x.look(8, 0, 0, 0), 0);
        due("least % -1", x.read(8, 0, 0, 0), 0);
        x.drop(0, 0);
        due("left first", x.look(4, 0, 2, 0), 1);
    }

    private static void arrays() {
        fresh(10);
        x.segment(0);
        x.plain(0, n("a"), 4);
        x.constant(0, n("k"), 1, false);
        due("put", x.put(2, 0, 0, 0), UNKNOWN);
        due("put", x.put(0, 1, 0, 0), UNKNOWN);
        due("put", x.put(0, 0, 8, 0), OUTSIDE);
        due("put", x.put(0, 0, -1, -1), OUTSIDE);
        due("put", x.put(0, 0, 0, 21), OUTSIDE);
        due("put", x.put(1, 0, 0, 21), OUTSIDE);
        due("put", x.put(1, 0, 0, 2), STATE);
        due("put", x.put(0, 0, 0, -1), -10);
        due("NOTHING still", x.array(0, 0, 0), NONE);
        due("put", x.put(0, 0, 4, 20), 1);
        x.store(0, 0, 19, 5, false);
        due("put", x.put(0, 0, 4, Integer.MIN_VALUE), -10);
        due("length", x.array(0, 0, 1), 20);
        due("put", x.put(0, 0, 4, 20), 1);
        x.late(0, 0, 1);
        due("new and 0", x.read(0, 0, 0, 0), 0);
        fresh(11);
        x.segment(0);
        x.late(0, 0, 1);
        x.constant(0, n("k"), 1, false);
        due("store", x.store(1, 0, 0, 0, false), UNKNOWN);
        due("store", x.store(0, 1, 0, 0, false), UNKNOWN);
        due("store", x.store(0, 0, 0, 0, false), STATE);
        long[] wholes = {1, 0xc1, 0x4fc1, 0x4fc1, 0x12344fc1, 0xf12344fc1L, d((float) 0xf12344fc1L), d(0xf12344fc1L)};
        long[] nan = {1, 0, 0, 0, 0, 0, NO_NUMBER, NO_NUMBER};
        long[] great = {1, -1, -1, 65535, Integer.MAX_VALUE, Long.MAX_VALUE, d(Double.POSITIVE_INFINITY), d(1e300)};
        long[] minus = {1, (byte) -130, -130, 65536 - 130, -130, -130, d(-130.75), d(-130.75)};
        wholes[1] = (byte) 0xc1;
        for (int kind = 0; kind < 8; kind++) {
            int c = x.plain(0, n("p" + (char) ('a' + kind)), kind);
            due("store", x.store(c, 0, 0, 1, false), -11);
            x.put(c, 0, kind, 1);
            due("store", x.store(c, 0, 1, 1, false), -12);
            due("store", x.store(c, 0, -1, 1, true), -12);
            due("store", x.store(c, 0, 0, 0xf12344fc1L, false), 1);
            due("whole", x.read(c, 0, 0, 0), wholes[kind]);
            due("store", x.store(c, 0, 0, 0x7ff0000000000001L, true), 1);
            due("no number", x.read(c, 0, 0, 0), nan[kind]);
            due("look", x.look(c, 0, 0, 0), kind >= 6 ? 4 : 0);
            x.store(c, 0, 0, d(1e300), true);
            due("great", x.read(c, 0, 0, 0), great[kind]);
            x.store(c, 0, 0, d(-130.75), true);
            due("minus", x.read(c, 0, 0, 0), minus[kind]);
            x.store(c, 0, 0, d(-0.0), true);
            due("-0.0", x.read(c, 0, 0, 0), kind >= 6 ? d(-0.0) : 0);
        }
        fresh(12);
        x.segment(0);
        x.plain(0, n("a"), 4);
        x.constant(0, n("k"), 1, false);
        due("drop", x.drop(2, 0), UNKNOWN);
        due("drop", x.drop(0, 1), UNKNOWN);
        due("drop", x.drop(1, 0), STATE);
        due("drop", x.drop(0, 0), 0);
        x.put(0, 0, 1, 0);
        due("drop", x.drop(0, 0), 1);
        due("drop", x.drop(0, 0), 0);
        fresh(13);
        x.plain(0, n("a"), 2);
        due("spread", x.spread(0, 1, false), 0);
        x.segment(0);
        x.segment(0);
        x.segment(1);
        rows(0, 1, 1, 2, 3);
        x.constant(0, n("k"), 1, false);
        due("spread", x.spread(2, 1, false), UNKNOWN);
        due("spread", x.spread(1, 1, false), STATE);
        x.put(0, 0, 7, 9);
        due("spread", x.spread(0, d(-2.9), true), 2);
        due("kind", x.array(0, 0, 0), 2);
        due("length", x.array(0, 0, 1), 0);
        due("length", x.array(0, 1, 1), 3);
        due("value", x.read(0, 1, 2, 0), -2);
        x.late(0, 1, 9);
        due("beyond", x.look(0, 1, 3, 0), 2);
    }

    private static void glueAndThin() {
        fresh(14);
        due("glue", x.glue(2, 0), UNKNOWN);
        due("glue", x.glue(0, 0), UNKNOWN);
        x.segment(0);
        due("glue", x.glue(0, 0), UNKNOWN);
        x.segment(0);
        x.segment(0);
        x.segment(1);
        due("glue", x.glue(0, 2), UNKNOWN);
        due("glue", x.glue(0, -1), UNKNOWN);
        due("glue", x.glue(0, Integer.MAX_VALUE), UNKNOWN);
        rows(0, 0, 1, 2);
        rows(0, 1, 3, 4, 5);
        rows(0, 2, 6);
        x.plain(0, n("a"), 4);
        x.plain(0, n("b"), 5);
        x.plain(1, n("c"), 5);
        x.put(2, 0, 0, 0);
        ints(0, 0, 10, 20, 99);
        due("second NOTHING", x.glue(0, 0), -11);
        x.put(0, 1, 5, 3);
        due("another KIND", x.glue(0, 0), -13);
        ints(0, 1, 30, 40);
        due("not so many", x.glue(0, 0), -12);
        ints(0, 0, 10);
        x.drop(0, 1);
        due("the first copy is asked first", x.glue(0, 0), -12);
        ints(0, 0, 10, 20, 99);
        ints(0, 1, 30, 40, 50, 98);
        x.put(1, 1, 5, 3);
        due("the next COLUMN", x.glue(0, 0), -11);
        due("nothing changed", x.count(0), 3);
        x.drop(1, 1);
        x.put(1, 2, 5, 1);
        x.store(1, 2, 0, 77, false);
        x.correct(0, 1, 1, 41, false, 5);
        x.correct(0, 2, 0, 61, false, 5);
        x.correct(1, 0, 1, 21, false, 5);
        x.correct(2, 0, 0, 5, false, 5);
        due("glue", x.glue(0, 0), 5);
        due("segments", x.count(0), 2);
        long[] want = {10, 20, 30, 40, 50};
        for (int i = 0; i < 5; i++) {
            due("place " + i, x.read(0, 0, i, 0), want[i]);
            due("moment " + i, x.moment(0, 0, i), i + 1);
        }
        due("length", x.array(0, 0, 1), 5);
        due("NOTHING of both", x.array(1, 0, 0), NONE);
        due("correction went with its row", x.read(0, 0, 3, 5), 41);
        due("correction behind", x.read(0, 1, 0, 5), 61);
        due("correction ahead", x.read(1, 0, 1, 5), 21);
        due("segment behind", x.read(1, 1, 0, 0), 77);
        due("moment behind", x.moment(0, 1, 0), 6);
        due("the other series", x.array(2, 0, 1), 0);
        due("segment", x.segment(0), 2);
        due("NOTHING there", x.array(1, 2, 0), NONE);
        for (int i = 0; i < 16; i++) {
            x.late(0, 2, i);
        }
        due("ROOM", x.glue(0, 1), ROOM);

        fresh(15);
        due("thin", x.thin(2, 2), UNKNOWN);
        due("thin", x.thin(0, 1), OUTSIDE);
        due("thin", x.thin(0, 11), OUTSIDE);
        due("thin", x.thin(0, 2), 0);
        x.segment(0);
        x.segment(0);
        x.segment(1);
        rows(0, 0, 10, 11, 12, 13, 14, 15, 16);
        rows(0, 1, 20, 21);
        rows(1, 0, 1, 2, 3);
        x.plain(0, n("a"), 4);
        x.plain(0, n("b"), 4);
        x.plain(1, n("c"), 4);
        ints(0, 0, 0, 1, 2, 3, 4, 5, 6, 7, 8, 9);
        x.put(1, 0, 1, 4);
        ints(1, 1, 1);
        x.correct(0, 0, 6, 66, false, 0);
        x.correct(0, 0, 5, 55, false, 0);
        x.correct(2, 0, 1, 22, false, 0);
        due("thin", x.thin(0, 3), 5);
        due("rows", x.count(2), 4);
        due("moment", x.moment(0, 0, 2), 16);
        due("length: those beyond all rows go", x.array(0, 0, 1), 3);
        due("length of another KIND", x.array(1, 0, 1), 2);
        due("kind stays", x.array(1, 0, 0), 1);
        due("length", x.array(1, 1, 1), 1);
        due("NOTHING stays", x.array(0, 1, 1), NONE);
        due("place", x.read(0, 0, 1, 0), 3);
        due("corrections", x.count(5), 2);
        due("correction", x.read(0, 0, 2, 0), 66);
        due("other series", x.read(2, 0, 1, 0), 22);
    }

    private static void corrections() {
        fresh(16);
        x.segment(0);
        rows(0, 0, 1, 2);
        x.plain(0, n("a"), 1);
        x.constant(0, n("k"), 1, false);
        due("correct", x.correct(2, 0, 0, 0, false, 0), UNKNOWN);
        due("correct", x.correct(0, 1, 0, 0, false, 0), UNKNOWN);
        due("correct", x.correct(0, 0, 2, 0, false, 0), UNKNOWN);
        due("correct", x.correct(0, 0, -1, 0, false, -1), UNKNOWN);
        due("correct", x.correct(0, 0, 0, 0, false, -1), OUTSIDE);
        due("correct", x.correct(1, 0, 0, 0, false, MOST + 1), OUTSIDE);
        due("correct", x.correct(1, 0, 0, 0, false, 0), STATE);
        due("correct", x.correct(0, 0, 0, 300, false, 10), 1);
        due("correct", x.correct(0, 0, 0, d(-1.5), true, 5), 2);
        due("correct", x.correct(0, 0, 0, 7, false, 10), 3);
        due("correct", x.correct(0, 0, 0, 8, false, MOST), 4);
        due("not known yet", x.look(0, 0, 0, 4), 1);
        due("known at 5", x.read(0, 0, 0, 5), -1);
        due("known at 9", x.read(0, 0, 0, 9), -1);
        due("of like times the last told", x.read(0, 0, 0, 10), 7);
        due("any time", x.read(0, 0, 0, Long.MAX_VALUE), 8);
        due("any time", x.look(0, 0, 0, Long.MIN_VALUE), 1);
        due("another row", x.look(0, 0, 1, MOST), 1);
        for (int i = 5; i <= 40; i++) {
            due("correct", x.correct(0, 0, 1, i, false, 0), i);
        }
        due("correct", x.correct(0, 0, 1, 0, false, 0), ROOM);
        due("correct", x.correct(1, 0, 1, 0, false, 0), STATE);

        fresh(17);
        x.segment(0);
        rows(0, 0, 1, 2, 3);
        x.plain(0, n("a"), 6);
        due("look", x.look(1, 0, 0, 0), UNKNOWN);
        due("look", x.look(0, 1, 0, 0), UNKNOWN);
        due("look", x.look(0, 0, 3, 0), UNKNOWN);
        due("MISSING", x.look(0, 0, 0, 0), 1);
        x.put(0, 0, 7, 0);
        due("OTHER ahead of BEYOND", x.look(0, 0, 0, 0), 3);
        x.put(0, 0, 6, 2);
        due("BEYOND", x.look(0, 0, 2, 0), 2);
        due("NUMBER", x.look(0, 0, 1, 0), 0);
        x.store(0, 0, 1, d(Double.NaN), true);
        due("IMPOSSIBLE", x.look(0, 0, 1, 0), 4);
        promise = 18;
        due("read", x.read(0, 0, 1, 0), NO_NUMBER);
        due("read", x.read(0, 0, 2, 0), 0);
        due("read", x.read(9, 0, 2, 0), 0);
        x.store(0, 0, 0, d(0.1), true);
        due("a float", x.read(0, 0, 0, 0), d(0.1f));
        promise = 19;
        due("array", x.array(0, 0, 0), 6);
        due("array", x.array(0, 0, 1), 2);
        due("array", x.array(0, 0, 2), OUTSIDE);
        due("array", x.array(0, 0, -1), OUTSIDE);
        due("array", x.array(0, 1, 2), UNKNOWN);
        due("array", x.array(1, 0, 0), UNKNOWN);
        x.constant(0, n("k"), 1, false);
        due("array", x.array(1, 0, 0), STATE);
        due("array", x.array(1, 0, 2), OUTSIDE);
        x.drop(0, 0);
        due("array", x.array(0, 0, 0), NONE);
    }

    private static void tellings() {
        fresh(20);
        due("told", x.told(0, 0), UNKNOWN);
        for (int kind = 0; kind < 8; kind++) {
            x.plain(1, n("p" + (char) ('a' + kind)), kind);
            int[] want = {1, kind, kind == 0 ? 0 : 1, kind == 3 ? 0 : 1, kind >= 6 ? 1 : 0, 1};
            for (int what = 0; what < 6; what++) {
                due("told " + kind + " " + what, x.told(kind, what), want[what]);
            }
        }
        x.constant(0, n("k"), 1, false);
        x.constant(0, n("r"), 1, true);
        x.scaled(n("s"), 3, 1, 1);
        x.derived(n("d"), 8, 8, 0);
        x.derived(n("e"), 8, 9, 0);
        x.scaled(n("f"), 11, 1, 1);
        int[][] want = {{0, 8, 1, 1, 0, 1}, {0, 8, 1, 1, 1, 1}, {1, 9, 1, 1, 1, 1}, {0, 10, 1, 1, 0, 2}, {0, 10, 1, 1, 1, 2}, {0, 9, 1, 1, 1, 2}};
        for (int c = 8; c < 14; c++) {
            for (int what = 0; what < 6; what++) {
                due("told " + c + " " + what, x.told(c, what), want[c - 8][what]);
            }
        }
        due("told", x.told(0, 6), OUTSIDE);
        due("told", x.told(0, -1), OUTSIDE);
        due("told", x.told(14, -1), UNKNOWN);
        promise = 21;
        due("find", x.find(n("pc")), 2);
        due("find", x.find(n("f")), 13);
        due("find", x.find(n("zz")), NONE);
        due("find", x.find(0), NONE);
        due("find", x.find(n("use")), NONE);
        fresh(22);
        x.segment(0);
        x.segment(1);
        rows(1, 0, -5, 7);
        due("moment", x.moment(1, 0, 1), 7);
        due("moment", x.moment(1, 0, 0), -5);
        due("moment", x.moment(1, 0, 2), 0);
        due("moment", x.moment(0, 0, 0), 0);
        due("moment", x.moment(1, -1, 0), 0);
        due("moment", x.moment(7, 0, 0), 0);
    }

    private static void faults() {
        use(23, PromisesTest::sample);
        due("empty", x.query(), -200);
        promise = 24;
        due("fault", x.fault(), 1);
        due("query", ask("use 0; give a;"), 0);
        due("fault", x.fault(), 0);
        due("the tape is empty", x.count(9), 0);
        // 1: no TOKEN, or one that can not stand there
        faulty("Use 0; give a;", 1, 0);
        faulty("use 0; give a", 1, 13);
        faulty("use 0; give a  ", 1, 15);
        faulty("use 0; give a; ;", 1, 15);
        faulty("use 0; give a;\0", 1, 14);
        faulty("use\t0; give a;", 1, 3);
        faulty("use 0; give impossiblex;", 1, 12);
        faulty("use 0; give abcdefg;", 1, 12);
        faulty("use 1234567890123; give a;", 1, 4);
        faulty("use 0; let u = 1.1234567; give a;", 1, 15);
        faulty("use 0; let u = 1.; give a;", 1, 16);
        // behind more than 9 digits a point is no REAL's: they are a WHOLE, if they are 12 at most
        faulty("use 0; known 1234567890.5; give a;", 1, 23);
        faulty("use 0; known 0000000001.5; give a;", 1, 23);
        faulty("use 0; known 123456789012.5; give a;", 1, 25);
        faulty("use 0; known 1234567890123.5; give a;", 1, 13);
        faulty("use 0; known 1234567890.1234567; give a;", 1, 23);
        faulty("use 0; known 1234567890.; give a;", 1, 23);
        faulty("use 0; known 123456789.5; give a;", 1, 13);
        faulty("use 0; let u = 123456789.1234567; give a;", 1, 15);
        faulty("use 0; let u = 1234567890.5; give a;", 1, 25);
        faulty("use 0; let u = - 12345678901.5; give a;", 1, 28);
        faulty("use 0; fill a 1234567890.5; give a;", 1, 24);
        faulty("use 0; where a < 1234567890.5; give a;", 1, 27);
        faulty("use 0; give 1234567890.5;", 1, 12);
        faulty("use 1234567890.5; give a;", 3, 4);
        faulty("use 0; span count 1234567890.5; give count a;", 3, 18);
        faulty("use 0; let use = 1; give a;", 1, 11);
        faulty("use 0; from 1 to 2 give a;", 1, 19);
        faulty("use 0; known -1; give a;", 1, 13);
        faulty("use 0; give sum a;", 1, 12);
        faulty("use 0; give quant 5 a;", 1, 12);
        faulty("use 0; group all; give diff a;", 1, 23);
        faulty("use 0; where (a) is there; give a;", 1, 17);
        faulty("use 0; where a; give a;", 1, 14);
        faulty("use 0; where (a = 1); give a;", 1, 16);
        faulty("use 0; sort a missing; give a;", 1, 21);
        faulty("use 0; sort a impossible first down; give a;", 1, 31);
        faulty("use 0; fill a 1; let u = 1; give a;", 1, 17);
        faulty("use 0; let u = min(1); give a;", 1, 20);
        faulty("use 0; let u = abs 1; give a;", 1, 19);
        faulty("use 0; span 5; give count a;", 1, 12);
        faulty("use 0; give ;", 1, 12);
        right("use 0;give a;");
        right("use 0\n;\ngive a\n;\n");
        right("use 0; from - 5 to -5; give a;");
        right("use 0;let u=123456789.123456;give u;");
        right("use 0;where a>=1and a<=2;give a;");
        // 2: NAMES
        faulty("use 0; give zz;", 2, 12);
        faulty("use 0; give b;", 2, 12);
        faulty("use 1; give a;", 2, 12);
        faulty("use 0; join 1 on b b; give a;", 2, 17);
        faulty("use 0; join 1 on a a; give a;", 2, 19);
        right("use 0; join 1 on a b; give a, b;");
        right("use 1; join 0 near 5; let u = a + b; give u;");
        faulty("use 0; let a = 1; give a;", 2, 11);
        faulty("use 0; let b = 1; give a;", 2, 11);
        faulty("use 0; let u = 1; let u = 2; give a;", 2, 22);
        faulty("use 0; let u = u; give a;", 2, 15);
        faulty("use 0; let u = v; let v = 1; give a;", 2, 15);
        faulty("use 0; group a; give r;", 2, 21);
        faulty("use 0; group all; give a;", 2, 23);
        faulty("use 0; span count 2; give a;", 2, 26);
        right("use 0; group a, r; give r, a, moment, sum z;");
        // 3: WHOLES out of bounds
        faulty("use 2; give a;", 3, 4);
        faulty("use 0; join 0 near 1; give a;", 3, 12);
        faulty("use 0; join 2 near 1; give a;", 3, 12);
        faulty("use 0; join 1 near 0; give a;", 3, 19);
        faulty("use 0; from 5 to 4; give a;", 3, 17);
        faulty("use 0; from -5 to - 6; give a;", 3, 20);
        faulty("use 0; span count 0; give count a;", 3, 18);
        faulty("use 0; span count 101; give count a;", 3, 18);
        faulty("use 0; span time 0; give count a;", 3, 17);
        faulty("use 0; group all; give quant 101 a;", 3, 29);
        right("use 0; known 999999999999; span time 999999999999; give quant 100 a;");
        // 4
        faulty("use 0; fill a 1.5; give a;", 4, 14);
        faulty("use 0; fill a - 1.5; give a;", 4, 16);
        faulty("use 0; let u = a; fill u 1.5; give a;", 4, 25);
        right("use 0; fill r 1; fill a line; fill a -1.5; give a;");
        tooMany();
    }

    private static String times(int n, String text) {
        return new String(new char[n]).replace("\0", text);
    }

    private static void tooMany() {
        String lets = "let u = 1; let v = 1; let w = 1; let x = 1; ";
        right("use 0; " + lets + "give a;");
        faulty("use 0; " + lets + "let y = 1; give a;", 5, 7 + lets.length());
        faulty("use 0; fill a 1; fill a 2; fill a 3; fill a 4; give a;", 5, 37);
        right("use 0; fill a 1; fill a 2; fill a 3; give a;");
        faulty("use 0; group a, r, m; give count a;", 5, 19);
        faulty("use 0; group a, r, zz; give count a;", 2, 19);
        faulty("use 0; sort a, r, m, c; give a;", 5, 21);
        right("use 0; sort a, r, m down; give a;");
        faulty("use 0; give a, a, a, a, a, a, a;", 5, 30);
        faulty("use 0; give a, a, a, a, a, a, moment;", 5, 30);
        faulty("use 0; give a, a, a, a, a, a, zz;", 2, 30);
        faulty("use 0; give a, a, a, a, a, a, sum a;", 1, 30);
        right("use 0; give a, a, a, a, a, diff a;");
        // COLUMNS: q is over a and z, s over a: 8 with r m c l k; sc (over c) is the ninth
        right("use 0; let u = q + s; where r is there or m is there or c is there or l is there; give a;");
        faulty("use 0; where q is there or s is there or r is there or m is there or c is there or l is there or sc is there; give a;", 5, 97);
        // 30 signs
        right("use 0; let u = 1" + times(30, "+1") + "; give a;");
        faulty("use 0; let u = 1" + times(31, "+1") + "; give a;", 5, 76);
        faulty("use 0; let u = 1" + times(29, "+1") + "; where not a is there; give a;", 5, 88);
        right("use 0; let u = 1" + times(28, "+1") + "; where not a is there; give a;");
        right("use 0; where " + times(15, "a = 1 or ").substring(0, 15 * 9 - 3) + "; give a;");
        faulty("use 0; where " + times(16, "a = 1 or ").substring(0, 16 * 9 - 3) + "; give a;", 5, 13 + 15 * 9 + 2);
        // one in the other
        right("use 0; let u = " + times(8, "(") + "1" + times(8, ")") + "; give a;");
        faulty("use 0; let u = " + times(9, "(") + "1" + times(9, ")") + "; give a;", 5, 23);
        faulty("use 0; let u = " + times(9, "-") + "1; give a;", 5, 23);
        faulty("use 0; let u = " + times(8, "-") + "abs(1); give a;", 5, 26);
        faulty("use 0; where " + times(4, "not[") + "(a) = 1" + times(4, "]") + "; give a;", 5, 29);
        right("use 0; where " + times(4, "not[") + "a = 1" + times(4, "]") + " and ((a)) = 1; give a;");
        // what was cut off the tape is not there
        tape("use 0; let u = 1.5");
        x.end(17);
        due("query", x.query(), -216);
        // a tape full of TOKENS
        faulty(times(600, ";"), 1, 0);
        faulty("use 0; let u = " + times(585, "-"), 5, 23);
        right("use 0; give a;" + times(586, " "));
        // QUERIES
        fresh(23);
        for (int i = 0; i < 8; i++) {
            due("query", ask("use 0; give moment;"), i);
        }
        tape("use");
        due("ninth", x.query(), ROOM);
        due("the tape stays", x.count(9), 3);
        due("fault of the one before", x.fault(), 0);
    }

    private static void costs() {
        use(25, PromisesTest::sample);
        int all = ask("use 0; group all; give count a, sum m;");
        due("cost", x.cost(1, 0), UNKNOWN);
        due("cost", x.cost(-1, 9), UNKNOWN);
        due("cost", x.cost(all, 4), OUTSIDE);
        due("cost", x.cost(all, -1), OUTSIDE);
        due("by rows", x.cost(all, 0), 4 * 6 * 2);
        due("by columns", x.cost(all, 1), 30 + 2 * 2 + 6);
        due("by sums", x.cost(all, 2), 10 + 2 * 2);
        due("by keys", x.cost(all, 3), NONE);
        int keys = ask("use 1; join 0 near 3; group s; give sum b;");
        due("by rows", x.cost(keys, 0), 4 * 4 * 3 + 2 * 6);
        due("by columns", x.cost(keys, 1), 30 + 1 * 3 + 4 + 3 * 6);
        due("by sums", x.cost(keys, 2), NONE);
        due("by keys", x.cost(keys, 3), 20 + 2 * 4 * 3 + 2);
        String[] not = {"use 0; known 5; group all; give count a;", "use 0; from 1 to 2; group all; give count a;",
            "use 0; where a = 1; group all; give count a;", "use 0; group all; give count c;", "use 0; group all; give sum a, count s;"};
        for (String text : not) {
            due(text, x.cost(ask(text), 2), NONE);
        }
        house();
        String[] neither = {"use 0; let u = 1; group all; give count a;", "use 0; fill a 1; group all; give count a;",
            "use 0; join 1 near 5; group all; give count a;", "use 0; group all; give mean a;", "use 0; group all; give count a, moment;",
            "use 0; span count 5; give count a;", "use 0; group all; give sum r;"};
        for (String text : neither) {
            due(text, x.cost(ask(text), 2), NONE);
        }
        promise = 26;
        house();
        all = ask("use 0; group all; give count a, sum m;");
        keys = ask("use 1; group b; give sum b;");
        int plain = ask("use 0; give moment;");
        due("way", x.way(3), UNKNOWN);
        due("way", x.way(all), 2);
        due("way", x.way(keys), 0);
        due("way", x.way(plain), 0);
        for (int i = 0; i < 12; i++) {
            x.late(1, 0, 9);
        }
        due("way", x.way(keys), 1);
        promise = 27;
        due("force", x.force(3, 0), UNKNOWN);
        due("force", x.force(all, 4), OUTSIDE);
        due("force", x.force(all, -1), OUTSIDE);
        due("force", x.force(keys, 3), 1);
        due("way", x.way(keys), 3);
        due("force", x.force(keys, 2), 1);
        due("it can not be worked so", x.way(keys), 1);
        due("force", x.force(keys, NONE), 1);
        due("way", x.way(keys), 1);
        due("force", x.force(all, 0), 1);
        due("way", x.way(all), 0);
        x.run(all);
        due("ended", x.ended(2), 0);
        long digest = x.digest();
        x.force(all, 2);
        x.run(all);
        due("ended", x.ended(2), 2);
        due("one answer", x.digest(), digest);
    }

    private static void runs() {
        use(28, PromisesTest::sample);
        due("run", x.run(0), UNKNOWN);
        int q = ask("use 0; give moment, a, r, c;");
        due("run", x.run(q), 6);
        for (int i = 1; i < 149; i++) {
            x.run(q);
        }
        due("runs", x.count(8), 149);
        x.clear();
        sample();
        due("clear counts on", x.count(8), 149);
        q = ask("use 0; give moment, a, r, c;");
        due("run", x.run(q), 6);
        due("run", x.run(q), ROOM);
        due("run", x.run(1), UNKNOWN);
        promise = 29;
        due("rows", x.ended(4), 6);
        due("items", x.ended(3), 4);
        due("finding", x.ended(0), 0);
        due("place", x.ended(1), NONE);
        due("way", x.ended(2), 1);
        due("ended", x.ended(5), OUTSIDE);
        due("ended", x.ended(-1), OUTSIDE);
        promise = 30;
        due("sort", x.sort(0, 0), 0);
        due("sort", x.sort(1, 2), 4);
        due("sort", x.sort(5, 1), 2);
        due("sort", x.sort(5, 3), 1);
        due("sort", x.sort(6, 0), UNKNOWN);
        due("sort", x.sort(0, 4), UNKNOWN);
        due("sort", x.sort(-1, 0), UNKNOWN);
        due("sort", x.sort(0, -1), UNKNOWN);
        promise = 31;
        due("cell", x.cell(0, 0), 10);
        due("cell", x.cell(0, 2), d(-0.0));
        due("cell", x.cell(1, 2), NO_NUMBER);
        due("cell", x.cell(5, 1), 0);
        due("cell", x.cell(6, 0), 0);
        promise = 32;
        due("real", x.real(1), 0);
        due("real", x.real(2), 1);
        due("real", x.real(4), UNKNOWN);
        due("real", x.real(-1), UNKNOWN);
        promise = 33;
        long h = 17;
        for (int i = 0; i < 6; i++) {
            for (int j = 0; j < 4; j++) {
                h = 31 * h + x.sort(i, j);
                h = 31 * h + x.cell(i, j);
            }
        }
        due("digest", x.digest(), h);
        use(29, PromisesTest::sample);
        q = ask("use 0; give q;");
        x.run(ask("use 0; give a;"));
        due("run", x.run(q), -12);
        due("finding", x.ended(0), 2);
        due("place", x.ended(1), 12);
        due("items", x.ended(3), 0);
        due("rows", x.ended(4), 0);
        due("no result", x.sort(0, 0), UNKNOWN);
        due("no result", x.real(0), UNKNOWN);
        due("no result", x.digest(), 17);
    }

    private static void marks() {
        fresh(34);
        x.segment(0);
        x.late(0, 0, 5);
        x.plain(0, n("a"), 4);
        due("mark", x.mark(), 0);
        ints(0, 0, 7);
        due("mark", x.mark(), 1);
        x.correct(0, 0, 0, 8, false, 0);
        int old = ask("use 0; give a;");
        x.plain(0, n("b"), 4);
        x.spread(1, 9, false);
        int gone = ask("use 0; give b;");
        int none = ask("use 0; give moment;");
        due("mark", x.mark(), 2);
        due("mark", x.mark(), ROOM);
        due("run", x.run(gone), 1);
        promise = 35;
        due("undo", x.undo(3), UNKNOWN);
        due("undo", x.undo(-1), UNKNOWN);
        due("undo", x.undo(2), 0);
        due("undo", x.undo(1), 1);
        due("the RESULT stays", x.cell(0, 0), 9);
        due("columns", x.count(4), 1);
        due("corrections", x.count(5), 0);
        due("queries", x.count(6), 3);
        due("marks", x.count(7), 2);
        due("read", x.read(0, 0, 0, 0), 7);
        due("gone", x.run(gone), STATE);
        due("gone", x.way(gone), STATE);
        due("gone", x.cost(gone, 0), STATE);
        due("gone", x.cost(gone, 7), OUTSIDE);
        due("forced all the same", x.force(gone, 1), 1);
        x.plain(0, n("b"), 4);
        due("another one has its number", x.run(gone), STATE);
        due("old", x.run(old), 1);
        due("none", x.run(none), 1);
        due("undo", x.undo(0), 1);
        due("NOTHING as then", x.array(0, 0, 0), NONE);
        ints(0, 0, 3);
        x.late(0, 0, 6);
        due("the mark stays", x.undo(0), 0);
        due("rows", x.count(2), 1);
        due("NOTHING as then", x.array(0, 0, 0), NONE);
        due("old", x.run(old), 1);
        due("missing", x.sort(0, 0), 1);
        promise = 36;
        use(36, PromisesTest::sample);
        x.correct(0, 0, 0, 1, false, 1);
        x.mark();
        x.run(ask("use 0; give a;"));
        tape("use");
        int[] want = {2, 1, 6, 4, 12, 1, 1, 1, 1, 3};
        for (int what = 0; what < 10; what++) {
            due("count(" + what + ")", x.count(what), want[what]);
        }
        due("count", x.count(10), OUTSIDE);
        due("count", x.count(-1), OUTSIDE);
        promise = 37;
        due("a fault", ask("x"), -200);
        tape("use");
        due("clear", x.clear(), 12);
        for (int what = 0; what < 10; what++) {
            due("count(" + what + ")", x.count(what), what == 8 ? 1 : 0);
        }
        due("fault", x.fault(), 0);
        due("way", x.ended(2), NONE);
        due("rows", x.ended(4), 0);
        due("digest", x.digest(), 17);
        due("clear", x.clear(), 0);
        due("segment", x.segment(0), 0);
        due("no rows", x.moment(0, 0, 0), 0);
        due("plain", x.plain(0, n("a"), 4), 0);
        due("NOTHING", x.array(0, 0, 0), NONE);
    }

    // ---- what a RUN answers

    private static void rowsAndJoins() {
        use(28, PromisesTest::sample);
        gives("use 0; give moment, a;", "10 1|20 2|20 2|30 3|40 5|50 #2");
        gives("use 0; from 20 to 40; give moment;", "20|20|30|40");
        gives("use 0; from -5 to 9; give moment, a;", "");
        gives("use 0; give l, k, s;", "#1 7 2.5|#1 7 4.5|#1 7 4.5|#1 7 6.5|#3 7 10.5|#3 7 #2");
        gives("use 0; join 1 on a b; give moment, a, b, t;", "10 1 1 1.0|20 2 2 2.0|20 2 2 2.0|30 3 3 5.0");
        gives("use 0; join 1 on r t; give r, b;", "");
        gives("use 1; join 0 on t a; give t, a, moment;", "1.0 1 15|2.0 2 25|2.0 2 25|5.0 5 25");
        gives("use 0; join 1 near 6; give moment, b;", "10 #1|20 1|20 1|30 3|40 #1|50 #1");
        gives("use 0; join 1 near 15; where b is missing; give moment;", "10|50");
        gives("use 0; join 1 on q b; give a;", "!2@17");
        gives("use 0; from 30 to 50; join 1 on q b; give q, b;", "3 3|1 1");
        gives("use 0; from 40 to 50; join 1 on q b; give q, b;", "1 1");
        // KIND: at the NAME, as it is read
        gives("use 0; let u = 1 + c; give u;", "!3@19");
        gives("use 0; let u = -((c)); give u;", "!3@18");
        gives("use 0; let u = min(1, (c)); give u;", "!3@23");
        gives("use 0; let u = (c); let v = u + 1; give v;", "67|66|68|66|#1|#1");
        gives("use 0; from 0 to 1; let u = 1 + c; give u;", "");
        gives("use 0; give sc;", "!3@12");
        gives("use 0; where sc is there; give a;", "!3@13");
        gives("use 0; where m < 1; give a;", "!3@13");
        gives("use 0; where 1 >= (m); give a;", "!3@19");
        gives("use 0; where m = 0; give m;", "0|0|0");
        gives("use 0; where m + 1 < 2; give m;", "0|0|0");
        gives("use 0; where c > 65; give c;", "66|67");
        gives("use 0; sort a, m; give a;", "!3@15");
        gives("use 0; from 0 to 1; sort m; give a;", "!3@25");
        gives("use 0; from 0 to 1; give cum c;", "!3@29");
        gives("use 0; group all; give least m;", "!3@29");
        gives("use 0; group all; give count c, quant 50 m, sum c;", "!3@41");
        gives("use 0; group all; give least c, sum m, first c, last m;", "65 3 66 0");
        // a KNOWN time
        use(28, () -> {
            sample();
            x.correct(0, 0, 0, 30, false, 5);
            x.correct(0, 1, 1, 60, false, MOST);
        });
        gives("use 0; known 4; give a;", "1|2|2|3|5|#2");
        gives("use 0; known 5; give a, s;", "1 2.5|2 4.5|2 4.5|30 60.5|5 10.5|#2 #2");
        gives("use 0; give a;", "1|2|2|30|5|60");
    }

    private static void expressions() {
        use(28, PromisesTest::sample);
        String one = "use 0; from 10 to 10; let u = ";
        gives(one + "7 - 2 - 1 + 2 * 3; give u;", "10");
        gives(one + "-7 / 2; let v = -7 % 2; let w = 7 / -2 % 2; give u, v, w;", "-3 -1 -1");
        gives(one + "7.0 / 2; let v = -7.5 % 2; give u, v;", "3.5 -1.5");
        gives(one + "1 / 0; give u;", "!2@32");
        gives(one + "1 % 0; give u;", "!2@32");
        gives(one + "1.0 / 0; let v = 0.0 / 0; let w = 5 % 0.0; give u, v, w;", "Infinity #4 #4");
        gives(one + "999999999999 * 9000000 * 2; give u;", "!1@53");
        gives(one + "999999999999 * 9223372 + 36863999179; give u;", "9223372036854775807");
        gives(one + "999999999999 * 9223372 + 36863999180; give u;", "!1@53");
        gives(one + "floor(-1.5); let v = ceil(-0.5); let w = round(2.5); let x = round(3.5); give u, v, w, x;", "-2.0 -0.0 2.0 4.0");
        gives(one + "floor(3); let v = sign(-5); let w = sign(-0.5); let x = sign(-0.0); give u, v, w, x;", "3 -1 -1.0 -0.0");
        gives(one + "min(0.0, -0.0); let v = max(-0.0, 0); let w = min(3, 2); let x = max(3, 2.5); give u, v, w, x;", "-0.0 0.0 2 3.0");
        gives(one + "abs(-3) + abs(-3.5); let v = min(0.0 / 0, 1); let w = sign(v); let x = abs(l); give u, v, w, x;", "6.5 #4 #4 #1");
        gives(one + "moment * 2 + k; give u;", "27");
        gives("use 0; let u = l + a; let v = a + l; give u, v;", "#1 #1|#1 #1|#1 #1|#1 #1|#3 #3|#3 #2");
        gives("use 0; from 10 to 10; let u = - moment - 9; let v = a * r; give u, v;", "-19 -0.0");
        // OVERFLOW of the least WHOLE
        use(28, () -> {
            x.segment(0);
            x.late(0, 0, 1);
            x.plain(0, n("a"), 5);
            x.spread(0, Long.MIN_VALUE, false);
        });
        gives("use 0; let u = 1 - -a; give u;", "!1@19");
        gives("use 0; let u = abs(a); give u;", "!1@15");
        gives("use 0; let u = a / -1; give u;", "!1@17");
        gives("use 0; let u = a % -1; give u;", "0");
        gives("use 0; let u = floor(a); let v = sign(a); give u, v;", "-9223372036854775808 -1");
        gives("use 0; group all; give sum a, mean a;", "-9223372036854775808 -9.223372036854776E18");
    }

    private static void fills() {
        use(28, () -> {
            x.segment(0);
            x.segment(0);
            x.segment(1);
            rows(0, 0, 0, 10, 20, 30, 40);
            rows(0, 1, 50, 50, 50);
            x.plain(0, n("a"), 4);
            x.plain(0, n("r"), 7);
            x.scaled(n("s"), 0, 2000, 0);
            x.plain(0, n("m"), 0);
            x.correct(0, 0, 1, 10, false, 0);
            x.correct(0, 0, 3, 40, false, 0);
            x.correct(0, 1, 1, 7, false, 0);
            x.correct(1, 0, 1, d(Double.NaN), true, 0);
            x.correct(1, 0, 2, d(1.5), true, 0);
            x.correct(1, 1, 0, d(Double.NaN), true, 0);
            x.correct(1, 1, 2, d(4.5), true, 0);
        });
        gives("use 0; give a, r;", "#1 #1|10 #4|#1 1.5|40 #1|#1 #1|#1 #4|7 #1|#1 4.5");
        gives("use 0; fill a last; fill r last; give a, r;", "#1 #1|10 #4|10 1.5|40 1.5|40 1.5|40 #4|7 1.5|7 4.5");
        gives("use 0; fill a line; give a, s;", "#1 #1|10.0 20.0|25.0 #1|40.0 80.0|23.5 #1|7.0 #1|7.0 14.0|#1 #1");
        gives("use 0; fill r line; give r;", "#1|#4|1.5|2.5|3.5|#4|4.5|4.5");
        gives("use 0; fill r -2; fill a - 3; give a, r;", "-3 -2.0|10 #4|-3 1.5|40 -2.0|-3 -2.0|-3 #4|7 -2.0|-3 4.5");
        gives("use 0; fill m 5; give m;", "5|5|5|5|5|5|5|5");
        gives("use 0; fill a last; fill a 0; where a < 10; give moment, a;", "0 0|50 7|50 7");
        gives("use 0; let u = a; fill u line; fill u 0.5; give u, a;", "0.5 #1|10.0 10|25.0 #1|40.0 40|23.5 #1|7.0 #1|7.0 7|0.5 #1");
        gives("use 0; fill m line; sort m; give m;", "!3@25");
        // like MOMENTS: v where m is n
        use(28, () -> {
            x.segment(0);
            rows(0, 0, 5, 5, 5);
            x.plain(0, n("a"), 4);
            x.correct(0, 0, 0, 1, false, 0);
            x.correct(0, 0, 2, 9, false, 0);
        });
        gives("use 0; fill a line; give a;", "1.0|1.0|9.0");
        // the FINDING of a COLUMN that is filled stands at its NAME
        use(28, PromisesTest::sample);
        gives("use 0; fill a 1; fill q 1; give a;", "!2@22");
    }

    private static void conditions() {
        use(28, PromisesTest::sample);
        gives("use 0; where a = 2 or a = 3 and moment > 25; give a;", "2|2|3");
        gives("use 0; where [a = 2 or a = 3] and moment > 25; give a;", "3");
        gives("use 0; where not a = 2; give a;", "1|3|5|#2");
        gives("use 0; where a unlike 2; give a;", "1|3|5");
        gives("use 0; where r unlike r; give r;", "#4");
        gives("use 0; where r <= 1.5; give r;", "-0.0|1.5|0.0");
        gives("use 0; where r = 0; give r;", "-0.0|0.0");
        gives("use 0; where a is beyond or l is other; give moment, a;", "40 5|50 #2");
        gives("use 0; where r is impossible; give moment;", "20");
        gives("use 0; where r is there; give moment;", "10|20|30|40|50");
        gives("use 0; where c is missing; give moment;", "40|50");
        gives("use 0; where a = 1 or a / z = 2; give a;", "!2@24");
        gives("use 0; where z = 0 or a / z = 1; give a, z;", "1 1|2 0|2 2|5 5");
        gives("use 0; where z > 0 and a / z = 1; give a, z;", "1 1|2 2|5 5");
        gives("use 0; where l = 1 / 0; give a;", "!2@19");
        gives("use 0; where q = 1; give a;", "!2@13");
        gives("use 0; where a > 100; give a;", "");
    }

    private static void shapes() {
        use(28, PromisesTest::sample);
        gives("use 0; sort a down; give a, moment;", "5 40|3 30|2 20|2 20|1 10|#2 50");
        gives("use 0; sort a missing first; give a;", "#2|1|2|2|3|5");
        gives("use 0; sort r; give r;", "-0.0|0.0|1.5|4.25|100.0|#4");
        gives("use 0; sort r down impossible first; give r;", "#4|100.0|4.25|1.5|-0.0|0.0");
        gives("use 0; let u = m; sort u down, a down missing first; give u, a;", "1 3|1 2|1 2|0 #2|0 5|0 1");
        gives("use 0; sort k, q; give a;", "!2@15");
        gives("use 0; group m; give m, count a, sum a, moment;", "0 2 6 10|1 3 7 20");
        gives("use 0; group l; give l, count k;", "#1 6");
        gives("use 0; group r; give r, count k;", "-0.0 2|#4 1|4.25 1|1.5 1|100.0 1");
        gives("use 0; group m, a; give a, m, count k;", "1 0 1|2 1 2|3 1 1|5 0 1|#2 0 1");
        gives("use 0; group all; give count k, moment, sum a;", "6 10 13");
        gives("use 0; where a = 99; group all; give count k, moment, sum a;", "0 #1 #1");
        gives("use 0; where a = 99; group k; give count k;", "");
        gives("use 0; where a = 99; span count 3; give count k;", "");
        gives("use 0; where a = 99; span time 3; give count k;", "");
        gives("use 0; span count 4; give count k, moment, sum a;", "4 10 8|2 40 5");
        gives("use 0; span count 6; give count k;", "6");
        gives("use 0; span time 8; give moment, count k, sum a, first a;", "10 1 1 1|18 2 4 2|26 1 3 3|34 1 5 5|42 0 #1 #1|50 1 #1 #1");
        gives("use 0; span time 41; give count k;", "6");
        gives("use 0; span time 40; give count k;", "5|1");
        gives("use 0; group q; give count a;", "!2@13");
        // more than 100 spans, more than 300 ROWS
        use(28, () -> {
            x.segment(0);
            x.segment(1);
            x.segment(1);
            for (int i = 0; i < 16; i++) {
                x.late(0, 0, i == 15 ? 100 : i);
                x.late(1, 0, i);
                x.late(1, 1, i);
            }
            x.constant(0, n("a"), 1, false);
            x.constant(1, n("b"), 1000, true);
            x.plain(0, n("z"), 4);
            x.spread(2, 1, false);
            x.derived(n("q"), 0, 2, 3);
        });
        gives("use 0; span time 1; give count a;", "!4@7");
        gives("use 0; from 0 to 9; join 1 on a b; group all; give count b;", "!4@20");
        gives("use 0; from 0 to 8; join 1 on a b; group all; give count b, sum a;", "288 288");
        gives("use 0; from 0 to 8; join 1 on a b; span count 2; give count b;", "!4@35");
        x.store(2, 0, 9, 0, false);
        gives("use 0; from 0 to 9; join 1 on q b; give a;", "!2@30");
        x.store(2, 0, 9, 1, false);
        x.store(2, 0, 10, 0, false);
        gives("use 0; join 1 on q b; give a;", "!4@7");
        // 300 ROWS are let through, each a group of its own
        use(28, () -> {
            for (int i = 0; i < 20; i++) {
                if (i % 10 == 0) {
                    x.segment(0);
                    x.segment(1);
                }
                x.late(0, i / 10, i < 15 ? i : 999);
                x.late(1, i / 10, i);
            }
            x.constant(0, n("a"), 1, false);
            x.constant(1, n("b"), 1, false);
            x.plain(1, n("c"), 4);
            ints(2, 0, 0, 1, 2, 3, 4, 5, 6, 7, 8, 9);
            ints(2, 1, 10, 11, 12, 13, 14, 15, 16, 17, 18, 19);
        });
        due("rows", x.run(ask("use 0; from 0 to 14; join 1 on a b; let u = moment; group u, c; give u, c, count a, moment, sum c;")), 300);
        for (int i = 0; i < 300; i++) {
            due("group", row(i).equals(i / 20 + " " + i % 20 + " 1 " + i / 20 + " " + i % 20) ? 1 : 0, 1);
        }
        due("rows", x.run(ask("use 0; from 0 to 14; join 1 on a b; let u = moment; sort c down, u down; give u, c;")), 300);
        for (int i = 0; i < 300; i++) {
            due("row", row(i).equals((14 - i % 15) + " " + (19 - i / 15)) ? 1 : 0, 1);
        }
        due("one more row", x.run(ask("use 0; from 0 to 999; join 1 on a b; give a;")), -14);
        due("spans", x.run(ask("use 0; from 0 to 14; join 1 on a b; span count 3; give first c;")), 100);
        use(28, () -> {
            x.segment(0);
            rows(0, 0, 0, 100);
            x.constant(0, n("a"), 1, false);
        });
        gives("use 0; span time 1; give count a;", "!4@7");
        gives("use 0; from 0 to 99; span time 1; give count a;", "1");
    }

    private static void items() {
        use(28, PromisesTest::sample);
        gives("use 0; give diff a, cum a, moment;", "#1 1 10|1 3 20|0 5 20|1 8 30|2 13 40|#2 #2 50");
        gives("use 0; sort a down missing first; give diff a, cum a;", "#1 #2|#2 5|-2 8|-1 10|0 12|-1 13");
        gives("use 0; give diff r, cum r;", "#1 0.0|#4 #4|#4 #4|-2.75 #4|-1.5 #4|100.0 #4");
        gives("use 0; give diff l;", "#1|#1|#1|#1|#3|#3");
        gives("use 0; group all; give count r, impossible r, missing c, beyond a, other l, missing l;", "5 1 2 1 2 4");
        gives("use 0; where r is there; group all; give sum r, ksum r, mean r, least r, great r, first r;",
            "105.75 105.75 21.15 -0.0 100.0 -0.0");
        gives("use 0; group all; give sum r, mean r, least r, great r, median r, last r;", "#4 #4 -0.0 100.0 1.5 100.0");
        gives("use 0; group all; give median a, var a, quant 0 a, quant 20 a, quant 21 a, quant 100 a;", "2.0 1.8400000000000003 1 1 2 5");
        gives("use 0; where a <= 3; group all; give median a, quant 50 a, quant 51 a, quant 75 a, quant 76 a;", "2.0 2 2 2 3");
        gives("use 0; where a = 1 or a = 2; span count 2; give median a;", "1.5|2.0");
        gives("use 0; group all; give slope k, base k, slope a, base a;",
            "0.0 7.0 " + slope(new double[] {0, 10, 10, 20, 30}, new double[] {1, 2, 2, 3, 5}));
        gives("use 0; from 10 to 10; group all; give slope a, base a, var a, ksum a;", "#4 #4 0.0 1.0");
        gives("use 0; group all; give sum l, ksum l, median l, slope l, first l, count l;", "#1 #1 #1 #1 #1 0");
        gives("use 0; where r is impossible; group all; give least r, median r, quant 5 r, first r, sum r, count r;", "#1 #1 #1 #4 #4 0");
        gives("use 0; group all; give count q;", "!2@29");
        // which ITEMS are REAL
        house();
        x.run(ask("use 0; group all; give count r, missing r, sum a, sum r, ksum a, mean a;"));
        int[] first = {0, 0, 0, 1, 1, 1};
        for (int j = 0; j < 6; j++) {
            due("real " + j, x.real(j), first[j]);
        }
        x.run(ask("use 0; fill a line; group all; give median c, first a, quant 5 r, great r, moment, slope a;"));
        int[] second = {1, 1, 1, 1, 0, 1};
        for (int j = 0; j < 6; j++) {
            due("real " + j, x.real(j), second[j]);
        }
        // OVERFLOW only if all together does not fit; Neumaier's sum keeps what is small
        use(28, () -> {
            x.segment(0);
            rows(0, 0, 1, 2, 3, 4);
            x.plain(0, n("a"), 5);
            x.plain(0, n("r"), 7);
            x.put(0, 0, 5, 4);
            x.store(0, 0, 0, Long.MAX_VALUE, false);
            x.store(0, 0, 1, 5, false);
            x.store(0, 0, 2, -6, false);
            reals(1, 0, 1.0, 1e100, 1.0, -1e100);
        });
        gives("use 0; group all; give sum a, sum r, ksum r;", "9223372036854775806 0.0 2.0");
        gives("use 0; from 1 to 2; group all; give count a, sum a;", "!1@45");
        gives("use 0; give cum a;", "!1@12");
        gives("use 0; where a unlike 5; give moment, diff a;", "!1@38");
        gives("use 0; from 1 to 1; give cum a, diff a;", "9223372036854775807 #1");
    }

    private static String slope(double[] x, double[] y) {
        double n = x.length;
        double sx = 0;
        double sy = 0;
        double p = 0;
        double q = 0;
        for (int i = 0; i < x.length; i++) {
            sx += x[i];
            sy += y[i];
            p += x[i] * y[i];
            q += x[i] * x[i];
        }
        double slope = (n * p - sx * sy) / (n * q - sx * sx);
        return slope + " " + (sy - slope * sx) / n;
    }

    public static void main(String[] args) {
        newObject();
        tapeCalls();
        segments();
        columns();
        scaledAndDerived();
        arrays();
        glueAndThin();
        corrections();
        tellings();
        faults();
        costs();
        runs();
        marks();
        rowsAndJoins();
        expressions();
        fills();
        conditions();
        shapes();
        items();
        System.out.println(wrong == 0 ? "all answers are as due" : wrong + " answers are not as due");
        if (wrong != 0) {
            System.exit(1);
        }
    }
}

import java.nio.ByteBuffer;
import java.nio.charset.StandardCharsets;
import java.util.Arrays;

/**
 * What the tests of the document's boundary cases share. Each check makes objects of its own (they are used for 512
 * calls at most), so no check leans on another. A ^ in a text marks the place of its FAULT or FINDING.
 */
final class Bounds {
    static final int UNKNOWN = -101, OUTSIDE = -102, STATE = -103, ROOM = -104, NONE = -109;
    static final long MOST = 1000000000000L;
    static final long NO_NUMBER = 0x7ff8000000000000L;

    /** The calls that bring a new object where a check begins. */
    interface Maker {
        void make(GapHouse x);
    }

    interface Call {
        long on(GapHouse x);
    }

    /** Methods of the tests that check for others: what they check is told by who called them. */
    private static final String HELPERS = "right|faulty|answers|refuses|tells|gives|fails|kept|isReal|line";

    private static String sentence = "";
    private static int wrong = 0;
    private static int checks = 0;

    private Bounds() {
    }

    /** The words of the document that the checks behind it are about. */
    static void says(String words) {
        sentence = words;
    }

    /** Ends a test's main method. */
    static void close() {
        System.out.println(wrong == 0 ? checks + " checks: all answers are as due" : wrong + " of " + checks + " checks failed");
        if (wrong != 0) {
            System.exit(1);
        }
    }

    private static String where() {
        for (StackTraceElement e : new Throwable().getStackTrace()) {
            if (!e.getClassName().startsWith("Bounds") || e.getClassName().endsWith("Test") && !e.getMethodName().matches(HELPERS)) {
                return e.getFileName() + ":" + e.getLineNumber();
            }
        }
        return "?";
    }

    static void due(String what, Object got, Object want) {
        checks++;
        if (!got.equals(want)) {
            wrong++;
            System.out.println(where() + " \"" + sentence + "\": " + what + "\n   is  " + got + "\n   due " + want);
        }
    }

    // ---- objects

    static final Maker NEW = x -> { };

    static Maker both(Maker first, Maker then) {
        return x -> {
            first.make(x);
            then.make(x);
        };
    }

    static GapHouse made(Maker maker) {
        GapHouse x = new GapHouse();
        maker.make(x);
        return x;
    }

    static void answers(Maker maker, Call call, long want) {
        due("the answer", call.on(made(maker)), want);
    }

    /** A refused call: its code, and a twin that was not called looks the same from then on. */
    static void refuses(Maker maker, Call call, long code) {
        GapHouse x = made(maker);
        due("the code", call.on(x), code);
        due("what there is behind a refused call", view(x), view(made(maker)));
    }

    /** As refuses(), for calls that never change anything: the answer, and nothing changed. */
    static void tells(Maker maker, Call call, long want) {
        refuses(maker, call, want);
    }

    // ---- all that calls tell of an object

    private static final class View {
        private static final int MOST_CALLS = 400;
        private final GapHouse x;
        private final StringBuilder seen = new StringBuilder();
        private int calls = 0;

        View(GapHouse x) {
            this.x = x;
        }

        private long see(Call call) {
            if (calls >= MOST_CALLS) {
                return UNKNOWN;
            }
            calls++;
            long answer = call.on(x);
            seen.append(' ').append(answer);
            return answer;
        }

        private void next(String what) {
            seen.append("\n      ").append(what);
        }

        void counts() {
            next("counts");
            for (int what = 0; what < 10; what++) {
                int w = what;
                see(y -> y.count(w));
            }
        }

        void ended() {
            next("fault, ended, digest, RESULT");
            see(GapHouse::fault);
            for (int what = 0; what < 5; what++) {
                int w = what;
                see(y -> y.ended(w));
            }
            see(GapHouse::digest);
            for (int j = 0; j < 7; j++) {
                int at = j;
                see(y -> y.real(at));
            }
        }

        void queries() {
            int size = x.count(6);
            for (int q = 0; q < size; q++) {
                int query = q;
                next("query " + q);
                see(y -> y.way(query));
                for (int way = 0; way < 4; way++) {
                    int w = way;
                    see(y -> y.cost(query, w));
                }
            }
        }

        void columns() {
            int size = x.count(4);
            for (int c = 0; c < size; c++) {
                int column = c;
                next("column " + c);
                for (int what = 0; what < 6; what++) {
                    int w = what;
                    see(y -> y.told(column, w));
                }
                int segments = x.count(x.told(c, 0));
                for (int s = 0; s < segments; s++) {
                    cells(column, s);
                }
            }
        }

        private void cells(int column, int segment) {
            next("   segment " + segment);
            see(y -> y.array(column, segment, 0));
            see(y -> y.array(column, segment, 1));
            boolean there = true;
            for (int i = 0; i < 16 && there; i++) {
                int row = i;
                there = see(y -> y.look(column, segment, row, MOST)) != UNKNOWN;
                if (there) {
                    see(y -> y.read(column, segment, row, MOST));
                    see(y -> y.read(column, segment, row, 0));
                }
            }
        }

        void moments() {
            for (int series = 0; series < 2; series++) {
                int of = series;
                next("moments of " + series);
                for (int s = 0; s < x.count(series); s++) {
                    int segment = s;
                    for (int i = 0; i < (x.count(series) > 2 ? 3 : 16); i++) {
                        int row = i;
                        see(y -> y.moment(of, segment, row));
                    }
                }
            }
        }

        void tapeAndMarks() {
            next("the tape");
            long query = see(GapHouse::query);
            see(GapHouse::fault);
            if (query >= 0) {
                see(y -> y.run((int) query));
                see(GapHouse::digest);
            }
            next("the last mark");
            int mark = x.count(7) - 1;
            see(y -> y.undo(mark));
            counts();
        }
    }

    static String view(GapHouse x) {
        View view = new View(x);
        view.counts();
        view.ended();
        view.queries();
        view.moments();
        view.columns();
        view.tapeAndMarks();
        return view.seen.toString();
    }

    // ---- names, numbers, arrays

    static long n(String name) {
        long n = 0;
        for (char c : name.toCharArray()) {
            n = n << 8 | c;
        }
        return n;
    }

    static long d(double v) {
        return Double.doubleToLongBits(v);
    }

    static void rows(GapHouse x, int series, int segment, long... moments) {
        for (long m : moments) {
            x.late(series, segment, m);
        }
    }

    static void wholes(GapHouse x, int column, int segment, long... values) {
        x.put(column, segment, x.told(column, 1), values.length);
        for (int i = 0; i < values.length; i++) {
            x.store(column, segment, i, values[i], false);
        }
    }

    static void reals(GapHouse x, int column, int segment, double... values) {
        x.put(column, segment, x.told(column, 1), values.length);
        for (int i = 0; i < values.length; i++) {
            x.store(column, segment, i, d(values[i]), true);
        }
    }

    // ---- texts

    static String times(int n, String text) {
        return text.repeat(n);
    }

    static void tape(GapHouse x, String text) {
        byte[] b = Arrays.copyOf(text.getBytes(StandardCharsets.ISO_8859_1), (text.length() + 19) / 20 * 20);
        x.end(0);
        for (int i = 0; i < b.length; i += 20) {
            ByteBuffer w = ByteBuffer.wrap(b, i, 20);
            x.feed(w.getInt(), w.getInt(), w.getInt(), w.getInt(), w.getInt());
        }
        due("end() of a text", x.end(text.length()), text.length());
    }

    static int ask(GapHouse x, String text) {
        tape(x, text);
        return x.query();
    }

    private static String bare(String text) {
        return text.replace("^", "");
    }

    /** A text with a FAULT at the ^: its number and place; it is no QUERY, and THE TAPE is empty. */
    static void faulty(Maker maker, String text, int fault) {
        GapHouse x = made(maker);
        int queries = x.count(6);
        due("query() of " + text, ask(x, bare(text)), -200 - text.indexOf('^'));
        due("fault() of " + text, x.fault(), fault);
        due("QUERIES behind a FAULT", x.count(6), queries);
        due("THE TAPE behind a FAULT", x.count(9), 0);
    }

    /** A text without FAULT. */
    static void right(Maker maker, String text) {
        GapHouse x = made(maker);
        int queries = x.count(6);
        due("query() of " + text, ask(x, text), queries);
        due("fault() of " + text, x.fault(), 0);
        due("QUERIES", x.count(6), queries + 1);
        due("THE TAPE", x.count(9), 0);
    }

    private static String row(GapHouse x, int i) {
        StringBuilder b = new StringBuilder();
        for (int j = 0; j < x.ended(3); j++) {
            int sort = x.sort(i, j);
            long cell = x.cell(i, j);
            String number = x.real(j) == 1 ? "" + Double.longBitsToDouble(cell) : "" + cell;
            b.append(j == 0 ? "" : " ").append(sort == 0 ? number : "#" + sort);
        }
        return b.toString();
    }

    /** The ROWS of the RESULT, parted by |. */
    static String result(GapHouse x) {
        StringBuilder b = new StringBuilder();
        for (int i = 0; i < x.ended(4); i++) {
            b.append(i == 0 ? "" : "|").append(row(x, i));
        }
        return b.toString();
    }

    /** A RUN of a text: its ROWS, each CELL a NUMBER or # and its sort, or !FINDING, which is at the ^. All ways are gone. */
    static void gives(Maker maker, String text, String want) {
        GapHouse x = made(maker);
        int q = ask(x, bare(text));
        if (q < 0) {
            due("query() of " + text + ", fault " + x.fault(), q, 0);
            return;
        }
        int answer = x.run(q);
        String got = answer < 0 ? "!" + x.ended(0) : result(x);
        due(text, got, want);
        due("run() of " + text, answer, answer < 0 ? -10 - x.ended(0) : x.ended(4));
        due("the place of the FINDING of " + text, x.ended(1), want.startsWith("!") ? text.indexOf('^') : NONE);
        if (answer < 0) {
            due("there is no RESULT: ITEMS", x.ended(3), 0);
            due("there is no RESULT: ROWS", x.ended(4), 0);
        }
        sameByAllWays(x, q, text);
    }

    private static void sameByAllWays(GapHouse x, int q, String text) {
        int finding = x.ended(0);
        int place = x.ended(1);
        long digest = x.digest();
        for (int way = 0; way < 4; way++) {
            x.force(q, way);
            x.run(q);
            due("FINDING of " + text + " by way " + way, x.ended(0), finding);
            due("its place of " + text + " by way " + way, x.ended(1), place);
            due("digest of " + text + " by way " + way, x.digest(), digest);
            due("the way of " + text, x.ended(2) == way, x.cost(q, way) != NONE);
        }
    }
}

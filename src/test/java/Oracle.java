import java.lang.reflect.Array;
import java.math.BigInteger;
import java.util.ArrayList;
import java.util.Arrays;
import java.util.Collections;
import java.util.Comparator;
import java.util.HashMap;
import java.util.HashSet;
import java.util.LinkedHashMap;
import java.util.LinkedHashSet;
import java.util.List;
import java.util.Map;
import java.util.Set;

/**
 * The document once more, written another way: with the machine's own arrays, doubles and exceptions, trees instead of
 * code, and the library. The tests hold the class against it.
 */
final class Oracle {
    static final int UNKNOWN = -101, OUTSIDE = -102, STATE = -103, ROOM = -104, NONE = -109;
    static final long MOST = 1000000000000L;
    static final Class<?>[] TYPES = {boolean.class, byte.class, short.class, char.class, int.class, long.class, float.class,
        double.class};
    static final Set<String> WORDS = new HashSet<>(Arrays.asList(("use known from to join let fill last line where group all span "
        + "count time sort give on near down missing first impossible or and not is there beyond other unlike moment min max abs "
        + "floor ceil round sign diff cum sum ksum mean var least great median slope base quant").split(" ")));

    // ---- values

    static final class V {
        final int sort;
        final boolean real;
        final long w;
        final double d;

        V(int sort, boolean real, long w, double d) {
            this.sort = sort;
            this.real = real;
            this.w = w;
            this.d = d;
        }

        boolean absent() {
            return sort >= 1 && sort <= 3;
        }

        double dbl() {
            return real ? d : (double) w;
        }

        long bits() {
            return absent() ? 0 : real ? Double.doubleToLongBits(d) : w;
        }
    }

    static V whole(long w) {
        return new V(0, false, w, 0);
    }

    static V real(double d) {
        return new V(d != d ? 4 : 0, true, 0, d);
    }

    static V gone(int sort) {
        return new V(sort, false, 0, 0);
    }

    static final class Finding extends RuntimeException {
        final int code;
        int place;

        Finding(int code, int place) {
            this.code = code;
            this.place = place;
        }
    }

    static final class Fault extends RuntimeException {
        final int code;
        final int place;

        Fault(int code, int place) {
            this.code = code;
            this.place = place;
        }
    }

    static int compare(V a, V b) {
        if (!a.real && !b.real) {
            return Long.compare(a.w, b.w);
        }
        return a.dbl() < b.dbl() ? -1 : a.dbl() > b.dbl() ? 1 : 0;
    }

    static V fit(BigInteger exact, int place) {
        if (exact.bitLength() > 63) {
            throw new Finding(1, place);
        }
        return whole(exact.longValue());
    }

    static V act(String sign, V a, V b, int place) {
        if (a.absent()) {
            return a;
        }
        if (b.absent()) {
            return b;
        }
        if (a.real || b.real) {
            double x = a.dbl();
            double y = b.dbl();
            switch (sign) {
                case "+": return real(x + y);
                case "-": return real(x - y);
                case "*": return real(x * y);
                case "/": return real(x / y);
                case "%": return real(x % y);
                case "min": return real(Math.min(x, y));
                default: return real(Math.max(x, y));
            }
        }
        BigInteger x = BigInteger.valueOf(a.w);
        BigInteger y = BigInteger.valueOf(b.w);
        if ((sign.equals("/") || sign.equals("%")) && b.w == 0) {
            throw new Finding(2, place);
        }
        switch (sign) {
            case "+": return fit(x.add(y), place);
            case "-": return fit(x.subtract(y), place);
            case "*": return fit(x.multiply(y), place);
            case "/": return fit(x.divide(y), place);
            case "%": return fit(x.remainder(y), place);
            case "min": return fit(x.min(y), place);
            default: return fit(x.max(y), place);
        }
    }

    static V fun(String name, V a, int place) {
        if (a.absent()) {
            return a;
        }
        if (!a.real) {
            BigInteger x = BigInteger.valueOf(a.w);
            switch (name) {
                case "-": return fit(x.negate(), place);
                case "abs": return fit(x.abs(), place);
                case "sign": return whole(x.signum());
                default: return a;
            }
        }
        switch (name) {
            case "-": return real(-a.d);
            case "abs": return real(Math.abs(a.d));
            case "sign": return real(Math.signum(a.d));
            case "floor": return real(Math.floor(a.d));
            case "ceil": return real(Math.ceil(a.d));
            default: return real(Math.rint(a.d));
        }
    }

    // ---- what marks keep

    static final class Col {
        String name;
        int series;
        int sort;
        V value;
        Col left;
        Col right;
        double a;
        double b;
        String act;
        boolean real;
        int reads = 1;

        boolean plain() {
            return sort < 8;
        }

        void under(Set<Col> into) {
            into.add(this);
            if (left != null) {
                left.under(into);
            }
            if (right != null) {
                right.under(into);
            }
        }
    }

    static final class Cor {
        Col col;
        int seg;
        int row;
        V value;
        long time;

        Cor(Col col, int seg, int row, V value, long time) {
            this.col = col;
            this.seg = seg;
            this.row = row;
            this.value = value;
            this.time = time;
        }
    }

    static final class State {
        List<List<List<Long>>> series = new ArrayList<>();
        List<Col> cols = new ArrayList<>();
        Map<Col, List<Object>> arrays = new HashMap<>();
        List<Cor> cors = new ArrayList<>();

        State() {
            series.add(new ArrayList<>());
            series.add(new ArrayList<>());
        }

        State copy() {
            State s = new State();
            for (int i = 0; i < 2; i++) {
                for (List<Long> seg : series.get(i)) {
                    s.series.get(i).add(new ArrayList<>(seg));
                }
            }
            s.cols.addAll(cols);
            for (Col c : cols) {
                List<Object> list = new ArrayList<>();
                for (Object o : arrays.get(c)) {
                    list.add(copyOf(o, o == null ? 0 : Array.getLength(o)));
                }
                s.arrays.put(c, list);
            }
            for (Cor c : cors) {
                s.cors.add(new Cor(c.col, c.seg, c.row, c.value, c.time));
            }
            return s;
        }
    }

    static Object copyOf(Object o, int n) {
        if (o == null) {
            return null;
        }
        Object to = Array.newInstance(o.getClass().getComponentType(), n);
        System.arraycopy(o, 0, to, 0, Math.min(n, Array.getLength(o)));
        return to;
    }

    static int kindOf(Object array) {
        return Arrays.asList(TYPES).indexOf(array.getClass().getComponentType());
    }

    State s = new State();
    List<State> marks = new ArrayList<>();
    byte[] tape = new byte[0];
    List<Query> queries = new ArrayList<>();
    int lastFault = 0;
    int runs = 0;
    int finding = 0;
    int findingPlace = NONE;
    int lastWay = NONE;
    List<V[]> result = null;
    boolean[] resultReal = new boolean[0];

    int feed(int a, int b, int c, int d, int e) {
        if (tape.length + 20 > 600) {
            return ROOM;
        }
        int n = tape.length;
        tape = Arrays.copyOf(tape, n + 20);
        for (int x : new int[] {a, b, c, d, e}) {
            for (byte y : java.nio.ByteBuffer.allocate(4).putInt(x).array()) {
                tape[n++] = y;
            }
        }
        return n;
    }

    int end(int n) {
        if (n < 0 || n > tape.length) {
            return OUTSIDE;
        }
        tape = Arrays.copyOf(tape, n);
        return n;
    }

    boolean isSeries(int x) {
        return x == 0 || x == 1;
    }

    boolean isSeg(int series, int seg) {
        return isSeries(series) && seg >= 0 && seg < s.series.get(series).size();
    }

    boolean isRow(int series, int seg, int row) {
        return isSeg(series, seg) && row >= 0 && row < s.series.get(series).get(seg).size();
    }

    Col col(int c) {
        return c >= 0 && c < s.cols.size() ? s.cols.get(c) : null;
    }

    int segment(int series) {
        if (!isSeries(series)) {
            return UNKNOWN;
        }
        List<List<Long>> segs = s.series.get(series);
        if (segs.size() == 6) {
            return ROOM;
        }
        segs.add(new ArrayList<>());
        for (Col c : s.cols) {
            if (c.series == series) {
                s.arrays.get(c).add(null);
            }
        }
        return segs.size() - 1;
    }

    int late(int series, int seg, long m) {
        if (!isSeg(series, seg)) {
            return UNKNOWN;
        }
        if (Math.abs((double) m) > 1e12) {
            return OUTSIDE;
        }
        List<Long> rows = s.series.get(series).get(seg);
        if (rows.size() == 16) {
            return ROOM;
        }
        rows.add(m);
        return rows.size() - 1;
    }

    static String text(long name) {
        StringBuilder b = new StringBuilder();
        while (name != 0) {
            b.insert(0, (char) (name & 255));
            name >>>= 8;
        }
        return b.toString();
    }

    boolean badName(long name) {
        String t = text(name);
        return !t.matches("[a-z]{1,6}") || WORDS.contains(t);
    }

    int add(Col c, long name) {
        if (badName(name)) {
            return OUTSIDE;
        }
        c.name = text(name);
        if (named(c.name) != null || c.reads > 2) {
            return STATE;
        }
        if (s.cols.size() == 16) {
            return ROOM;
        }
        s.cols.add(c);
        s.arrays.put(c, new ArrayList<>(Collections.nCopies(s.series.get(c.series).size(), null)));
        return s.cols.size() - 1;
    }

    Col named(String name) {
        for (Col c : s.cols) {
            if (c.name.equals(name)) {
                return c;
            }
        }
        return null;
    }

    int plain(int series, long name, int kind) {
        if (!isSeries(series)) {
            return UNKNOWN;
        }
        if (kind < 0 || kind > 7) {
            return OUTSIDE;
        }
        Col c = new Col();
        c.series = series;
        c.sort = kind;
        c.real = kind >= 6;
        return add(c, name);
    }

    int constant(int series, long name, long v, boolean real) {
        if (!isSeries(series)) {
            return UNKNOWN;
        }
        if (v > MOST || v < -MOST) {
            return OUTSIDE;
        }
        Col c = new Col();
        c.series = series;
        c.sort = 8;
        c.real = real;
        c.value = real ? real(v / 1000.0) : whole(v);
        return add(c, name);
    }

    int scaled(long name, int column, int a, int b) {
        Col under = col(column);
        if (under == null) {
            return UNKNOWN;
        }
        Col c = new Col();
        c.series = under.series;
        c.sort = 9;
        c.left = under;
        c.a = a / 1000.0;
        c.b = b / 1000.0;
        c.real = true;
        c.reads = under.reads;
        return add(c, name);
    }

    int derived(long name, int left, int right, int act) {
        if (col(left) == null || col(right) == null) {
            return UNKNOWN;
        }
        if (act < 0 || act > 4 || col(left).series != col(right).series) {
            return OUTSIDE;
        }
        Col c = new Col();
        c.series = col(left).series;
        c.sort = 10;
        c.left = col(left);
        c.right = col(right);
        c.act = "+-*/%".substring(act, act + 1);
        c.real = c.left.real || c.right.real;
        c.reads = c.left.reads + c.right.reads;
        return add(c, name);
    }

    int put(int column, int seg, int kind, int n) {
        Col c = col(column);
        if (c == null || !isSeg(c.series, seg)) {
            return UNKNOWN;
        }
        if (kind < 0 || kind > 7 || n > 20) {
            return OUTSIDE;
        }
        if (!c.plain()) {
            return STATE;
        }
        try {
            s.arrays.get(c).set(seg, Array.newInstance(TYPES[kind], n));
        } catch (NegativeArraySizeException e) {
            return -10;
        }
        return 1;
    }

    static void set(Object array, int i, long v, boolean real) {
        double d = Double.longBitsToDouble(v);
        switch (kindOf(array)) {
            case 0: ((boolean[]) array)[i] = real ? d != 0.0 : v != 0; break;
            case 1: ((byte[]) array)[i] = real ? (byte) d : (byte) v; break;
            case 2: ((short[]) array)[i] = real ? (short) d : (short) v; break;
            case 3: ((char[]) array)[i] = real ? (char) d : (char) v; break;
            case 4: ((int[]) array)[i] = real ? (int) d : (int) v; break;
            case 5: ((long[]) array)[i] = real ? (long) d : v; break;
            case 6: ((float[]) array)[i] = real ? (float) d : (float) v; break;
            default: ((double[]) array)[i] = real ? d : (double) v; break;
        }
    }

    static V get(Object array, int i) {
        switch (kindOf(array)) {
            case 0: return whole(((boolean[]) array)[i] ? 1 : 0);
            case 1: return whole(((byte[]) array)[i]);
            case 2: return whole(((short[]) array)[i]);
            case 3: return whole(((char[]) array)[i]);
            case 4: return whole(((int[]) array)[i]);
            case 5: return whole(((long[]) array)[i]);
            case 6: return real(((float[]) array)[i]);
            default: return real(((double[]) array)[i]);
        }
    }

    int store(int column, int seg, int i, long v, boolean real) {
        Col c = col(column);
        if (c == null || !isSeg(c.series, seg)) {
            return UNKNOWN;
        }
        if (!c.plain()) {
            return STATE;
        }
        try {
            Object array = s.arrays.get(c).get(seg);
            array.getClass();
            set(array, i, v, real);
            return 1;
        } catch (NullPointerException e) {
            return -11;
        } catch (ArrayIndexOutOfBoundsException e) {
            return -12;
        }
    }

    int drop(int column, int seg) {
        Col c = col(column);
        if (c == null || !isSeg(c.series, seg)) {
            return UNKNOWN;
        }
        if (!c.plain()) {
            return STATE;
        }
        return s.arrays.get(c).set(seg, null) == null ? 0 : 1;
    }

    int spread(int column, long v, boolean real) {
        Col c = col(column);
        if (c == null) {
            return UNKNOWN;
        }
        if (!c.plain()) {
            return STATE;
        }
        List<List<Long>> segs = s.series.get(c.series);
        for (int i = 0; i < segs.size(); i++) {
            Object array = Array.newInstance(TYPES[c.sort], segs.get(i).size());
            for (int j = 0; j < segs.get(i).size(); j++) {
                set(array, j, v, real);
            }
            s.arrays.get(c).set(i, array);
        }
        return segs.size();
    }

    int glue(int series, int seg) {
        if (!isSeg(series, seg) || !isSeg(series, seg + 1)) {
            return UNKNOWN;
        }
        List<List<Long>> segs = s.series.get(series);
        int first = segs.get(seg).size();
        int second = segs.get(seg + 1).size();
        if (first + second > 16) {
            return ROOM;
        }
        Map<Col, Object> made = new HashMap<>();
        for (Col c : s.cols) {
            if (c.series == series && c.plain()) {
                Object a = s.arrays.get(c).get(seg);
                Object b = s.arrays.get(c).get(seg + 1);
                if (a == null && b == null) {
                    continue;
                }
                Object to = Array.newInstance(TYPES[c.sort], first + second);
                try {
                    System.arraycopy(a, 0, to, 0, first);
                    System.arraycopy(b, 0, to, first, second);
                } catch (NullPointerException e) {
                    return -11;
                } catch (ArrayStoreException e) {
                    return -13;
                } catch (IndexOutOfBoundsException e) {
                    return -12;
                }
                made.put(c, to);
            }
        }
        for (Col c : s.cols) {
            if (c.series == series) {
                s.arrays.get(c).set(seg, made.get(c));
                s.arrays.get(c).remove(seg + 1);
            }
        }
        segs.get(seg).addAll(segs.remove(seg + 1));
        for (Cor c : s.cors) {
            if (c.col.series == series && c.seg > seg) {
                c.row += c.seg == seg + 1 ? first : 0;
                c.seg--;
            }
        }
        return first + second;
    }

    int thin(int series, int n) {
        if (!isSeries(series)) {
            return UNKNOWN;
        }
        if (n < 2 || n > 10) {
            return OUTSIDE;
        }
        int went = 0;
        List<List<Long>> segs = s.series.get(series);
        for (int g = 0; g < segs.size(); g++) {
            List<Long> kept = new ArrayList<>();
            for (int i = 0; i < segs.get(g).size(); i++) {
                if (i % n == 0) {
                    kept.add(segs.get(g).get(i));
                } else {
                    went++;
                }
            }
            for (Col c : s.cols) {
                Object a = c.series == series ? s.arrays.get(c).get(g) : null;
                if (a != null) {
                    Object to = Array.newInstance(TYPES[kindOf(a)], 20);
                    int k = 0;
                    for (int i = 0; i < Array.getLength(a) && i < segs.get(g).size(); i++) {
                        if (i % n == 0) {
                            Array.set(to, k++, Array.get(a, i));
                        }
                    }
                    s.arrays.get(c).set(g, copyOf(to, k));
                }
            }
            segs.set(g, kept);
        }
        s.cors.removeIf(c -> c.col.series == series && c.row % n != 0);
        for (Cor c : s.cors) {
            c.row = c.col.series == series ? c.row / n : c.row;
        }
        return went;
    }

    int correct(int column, int seg, int row, long v, boolean real, long known) {
        Col c = col(column);
        if (c == null || !isRow(c.series, seg, row)) {
            return UNKNOWN;
        }
        if (known < 0 || known > MOST) {
            return OUTSIDE;
        }
        if (!c.plain()) {
            return STATE;
        }
        if (s.cors.size() == 40) {
            return ROOM;
        }
        Object one = Array.newInstance(TYPES[c.sort], 1);
        set(one, 0, v, real);
        s.cors.add(new Cor(c, seg, row, get(one, 0), known));
        return s.cors.size();
    }

    V value(Col c, int seg, int row, long known, int place) {
        if (c.sort == 8) {
            return c.value;
        }
        if (c.sort == 9) {
            V v = summed(c.left, seg, row, known, place);
            return v.absent() ? v : real(v.dbl() * c.a + c.b);
        }
        if (c.sort == 10) {
            V l = summed(c.left, seg, row, known, place);
            V r = summed(c.right, seg, row, known, place);
            return act(c.act, l, r, place);
        }
        Cor best = null;
        for (Cor k : s.cors) {
            if (k.col == c && k.seg == seg && k.row == row && k.time <= known && (best == null || k.time >= best.time)) {
                best = k;
            }
        }
        if (best != null) {
            return best.value;
        }
        Object a = s.arrays.get(c).get(seg);
        if (a == null) {
            return gone(1);
        }
        if (kindOf(a) != c.sort) {
            return gone(3);
        }
        return row >= Array.getLength(a) ? gone(2) : get(a, row);
    }

    V summed(Col c, int seg, int row, long known, int place) {
        if (c.sort == 3) {
            throw new Finding(3, place);
        }
        return value(c, seg, row, known, place);
    }

    int look(int column, int seg, int row, long known) {
        Col c = col(column);
        if (c == null || !isRow(c.series, seg, row)) {
            return UNKNOWN;
        }
        try {
            return value(c, seg, row, known, 0).sort;
        } catch (Finding f) {
            return -f.code;
        }
    }

    long read(int column, int seg, int row, long known) {
        int l = look(column, seg, row, known);
        return l == 0 || l == 4 ? value(col(column), seg, row, known, 0).bits() : 0;
    }

    int array(int column, int seg, int what) {
        Col c = col(column);
        if (c == null || !isSeg(c.series, seg)) {
            return UNKNOWN;
        }
        if (what != 0 && what != 1) {
            return OUTSIDE;
        }
        if (!c.plain()) {
            return STATE;
        }
        Object a = s.arrays.get(c).get(seg);
        return a == null ? NONE : what == 0 ? kindOf(a) : Array.getLength(a);
    }

    int told(int column, int what) {
        Col c = col(column);
        if (c == null) {
            return UNKNOWN;
        }
        if (what < 0 || what > 5) {
            return OUTSIDE;
        }
        return new int[] {c.series, c.sort, c.sort == 0 ? 0 : 1, c.sort == 3 ? 0 : 1, c.real ? 1 : 0, c.reads}[what];
    }

    int find(long name) {
        Col c = named(text(name));
        return c == null ? NONE : s.cols.indexOf(c);
    }

    long moment(int series, int seg, int row) {
        return isRow(series, seg, row) ? s.series.get(series).get(seg).get(row) : 0;
    }

    // ---- the text of a query

    static final class Token {
        final int place;
        final String text;
        /** w a word of the grammar, n a name, i digits, r with a point, s a sign, . the end, ! none. */
        final char type;

        Token(int place, String text, char type) {
            this.place = place;
            this.text = text;
            this.type = type;
        }
    }

    static List<Token> tokens(byte[] tape) {
        String t = new String(tape, java.nio.charset.StandardCharsets.ISO_8859_1);
        List<Token> list = new ArrayList<>();
        java.util.regex.Matcher m = java.util.regex.Pattern
            .compile("([ \n]+)|([a-z]+)|([0-9]{1,9}\\.[0-9]+)|([0-9]+)|(<=|>=|[;,=<>()\\[\\]+*/%-])").matcher(t);
        int at = 0;
        while (at < t.length()) {
            m.region(at, t.length());
            if (!m.lookingAt()) {
                list.add(new Token(at, "", '!'));
                return list;
            }
            String x = m.group();
            char type = ' ';
            if (m.group(2) != null) {
                type = WORDS.contains(x) ? 'w' : x.length() <= 6 ? 'n' : '!';
            } else if (m.group(3) != null) {
                type = x.length() - x.indexOf('.') - 1 > 6 ? '!' : 'r';
            } else if (m.group(4) != null) {
                type = x.length() > 12 ? '!' : 'i';
            } else if (m.group(5) != null) {
                type = 's';
            }
            if (type != ' ') {
                list.add(new Token(at, x, type));
            }
            at += x.length();
        }
        list.add(new Token(t.length(), "", '.'));
        return list;
    }

    static final class Row {
        int seg;
        int row;
        long moment;
        int oseg = -1;
        int orow = -1;
        Map<String, V> own = new HashMap<>();
    }

    interface Exp {
        V of(Row r);
    }

    interface Cond {
        boolean of(Row r);
    }

    /** A tree with what is known of it as it is read. */
    final class Tree {
        Exp exp;
        boolean real;
        String bare;
        int barePlace;

        V of(Row r, int want) {
            if (bare != null && query != null) {
                query.want(bare, want, barePlace);
            }
            return exp.of(r);
        }
    }

    Query query;

    static final class Item {
        String act;
        String name;
        int wordPlace;
        int namePlace;
        int share;
        boolean real;
    }

    static final class Key {
        String name;
        int place;
        boolean down;
        boolean missing;
        boolean impossible;
    }

    final class Query {
        List<Token> t;
        int at = 0;
        int series;
        long known = MOST;
        long from = -MOST;
        long to = MOST;
        boolean simple = true;
        String link = null;
        int linkPlace;
        long near;
        Key left;
        Key right;
        Map<String, Tree> lets = new LinkedHashMap<>();
        Set<String> lined = new HashSet<>();
        List<Object[]> fills = new ArrayList<>();
        Cond where = null;
        String shape = "rows";
        int shapePlace;
        long span;
        List<Key> keys = new ArrayList<>();
        List<Item> items = new ArrayList<>();
        Set<Col> reads = new LinkedHashSet<>();
        Map<String, Col> seen = new HashMap<>();
        Map<Col, Integer> numbers = new HashMap<>();
        int ops = 0;
        int nest = 0;
        boolean joined = false;
        int forced = NONE;

        // -- taking tokens

        Token now() {
            return t.get(at);
        }

        Fault bad(int code) {
            return new Fault(code, now().place);
        }

        boolean is(String text) {
            return (now().type == 'w' || now().type == 's') && now().text.equals(text);
        }

        boolean take(String text) {
            if (is(text)) {
                at++;
                return true;
            }
            return false;
        }

        void need(String text) {
            if (!take(text)) {
                throw bad(1);
            }
        }

        long whole(long low, long high, boolean minus) {
            if (now().type != 'i') {
                throw bad(1);
            }
            long v = Long.parseLong(now().text) * (minus ? -1 : 1);
            if (v < low || v > high) {
                throw bad(3);
            }
            at++;
            return v;
        }

        double real() {
            String x = now().text;
            int behind = x.length() - x.indexOf('.') - 1;
            at++;
            return (double) Long.parseLong(x.replace(".", "")) / Double.parseDouble("1e" + behind);
        }

        boolean visible(String name, int which) {
            Col c = named(name);
            return lets.containsKey(name) || (c != null && (which == 2 || c.series == which));
        }

        String name() {
            return name(joined ? 2 : series);
        }

        String name(int which) {
            if (now().type != 'n') {
                throw bad(1);
            }
            String name = now().text;
            if (!visible(name, which)) {
                throw bad(2);
            }
            if (!lets.containsKey(name)) {
                seen.put(name, named(name));
                named(name).under(reads);
                if (reads.size() > 8) {
                    throw bad(5);
                }
            }
            at++;
            return name;
        }

        boolean isReal(String name) {
            return lined.contains(name) || (lets.containsKey(name) ? lets.get(name).real : seen.get(name).real);
        }

        void op() {
            if (++ops > 30) {
                throw bad(5);
            }
        }

        void deeper() {
            if (++nest > 8) {
                throw bad(5);
            }
        }

        Query parse(byte[] tape) {
            t = tokens(tape);
            need("use");
            series = (int) whole(0, 1, false);
            need(";");
            if (take("known")) {
                known = whole(0, MOST, false);
                need(";");
                simple = false;
            }
            if (take("from")) {
                from = whole(-MOST, MOST, take("-"));
                need("to");
                to = whole(from, MOST, take("-"));
                need(";");
                simple = false;
            }
            linkPlace = now().place;
            if (take("join")) {
                whole(1 - series, 1 - series, false);
                if (take("on")) {
                    link = "on";
                    left = new Key();
                    left.place = now().place;
                    left.name = name(series);
                    right = new Key();
                    right.place = now().place;
                    right.name = name(1 - series);
                } else {
                    need("near");
                    link = "near";
                    near = whole(1, MOST, false);
                }
                need(";");
                joined = true;
                simple = false;
            }
            while (is("let")) {
                if (lets.size() == 4) {
                    throw bad(5);
                }
                at++;
                if (now().type != 'n') {
                    throw bad(1);
                }
                String name = now().text;
                if (lets.containsKey(name) || named(name) != null) {
                    throw bad(2);
                }
                at++;
                need("=");
                Tree tree = exp();
                need(";");
                lets.put(name, tree);
                simple = false;
            }
            while (is("fill")) {
                if (fills.size() == 3) {
                    throw bad(5);
                }
                at++;
                int place = now().place;
                String name = name();
                Object how;
                if (take("last")) {
                    how = "last";
                } else if (take("line")) {
                    how = "line";
                    lined.add(name);
                } else {
                    boolean minus = take("-");
                    if (now().type == 'r') {
                        if (!isReal(name)) {
                            throw bad(4);
                        }
                        double d = real();
                        how = Oracle.real(minus ? -d : d);
                    } else {
                        long v = whole(-MOST, MOST, minus);
                        how = isReal(name) ? Oracle.real(v) : Oracle.whole(v);
                    }
                }
                need(";");
                fills.add(new Object[] {name, place, how});
                simple = false;
            }
            if (take("where")) {
                where = cond();
                need(";");
                simple = false;
            }
            shape();
            need("give");
            do {
                items.add(item(items.size() == 6));
            } while (take(","));
            need(";");
            if (now().type != '.') {
                throw bad(1);
            }
            for (Col c : reads) {
                numbers.put(c, s.cols.indexOf(c));
            }
            return this;
        }

        void shape() {
            shapePlace = now().place;
            if (take("group")) {
                if (take("all")) {
                    shape = "all";
                } else {
                    shape = "names";
                    do {
                        key(2);
                    } while (take(","));
                }
                need(";");
            } else if (take("span")) {
                if (take("count")) {
                    shape = "count";
                    span = whole(1, 100, false);
                } else {
                    need("time");
                    shape = "time";
                    span = whole(1, MOST, false);
                }
                need(";");
            } else if (take("sort")) {
                shape = "sort";
                do {
                    Key k = key(3);
                    k.down = take("down");
                    if (take("missing")) {
                        need("first");
                        k.missing = true;
                    }
                    if (take("impossible")) {
                        need("first");
                        k.impossible = true;
                    }
                } while (take(","));
                need(";");
            }
        }

        Key key(int most) {
            Key k = new Key();
            k.place = now().place;
            Token first = now();
            k.name = name();
            if (keys.size() == most) {
                throw new Fault(5, first.place);
            }
            keys.add(k);
            return k;
        }

        boolean grouped() {
            return !shape.equals("rows") && !shape.equals("sort");
        }

        Item item(boolean tooMany) {
            Item i = new Item();
            i.wordPlace = now().place;
            i.namePlace = now().place;
            if (now().type == 'n') {
                if (!visible(now().text, joined ? 2 : series)) {
                    throw bad(2);
                }
                if (grouped()) {
                    boolean ok = false;
                    for (Key k : keys) {
                        ok |= k.name.equals(now().text);
                    }
                    if (!ok) {
                        throw bad(2);
                    }
                }
                if (tooMany) {
                    throw bad(5);
                }
                i.act = "";
                i.name = name();
                i.real = isReal(i.name);
                return i;
            }
            String acts = grouped() ? "moment count missing beyond other impossible sum ksum mean var least great median first last "
                + "slope base quant" : "moment diff cum";
            if (now().type != 'w' || !Arrays.asList(acts.split(" ")).contains(now().text)) {
                throw bad(1);
            }
            if (tooMany) {
                throw bad(5);
            }
            i.act = now().text;
            at++;
            if (i.act.equals("moment")) {
                return i;
            }
            if (i.act.equals("quant")) {
                i.share = (int) whole(0, 100, false);
            }
            i.namePlace = now().place;
            i.name = name();
            if (Arrays.asList("diff", "cum", "sum", "least", "great", "first", "last", "quant").contains(i.act)) {
                i.real = isReal(i.name);
            } else {
                i.real = Arrays.asList("ksum", "mean", "var", "median", "slope", "base").contains(i.act);
            }
            return i;
        }

        // -- expressions

        Tree made(boolean real, Exp e) {
            Tree tree = new Tree();
            tree.real = real;
            tree.exp = e;
            return tree;
        }

        Tree exp() {
            Tree a = term();
            while (is("+") || is("-")) {
                a = two(a);
            }
            return a;
        }

        Tree two(Tree a) {
            String sign = now().text;
            int place = now().place;
            op();
            at++;
            Tree b = sign.equals("+") || sign.equals("-") ? term() : one();
            return made(a.real || b.real, r -> {
                V x = a.of(r, 1);
                V y = b.of(r, 1);
                return act(sign, x, y, place);
            });
        }

        Tree term() {
            Tree a = one();
            while (is("*") || is("/") || is("%")) {
                a = two(a);
            }
            return a;
        }

        Tree one() {
            Token k = now();
            if (k.type == 'i') {
                long v = whole(0, Long.MAX_VALUE, false);
                return made(false, r -> Oracle.whole(v));
            }
            if (k.type == 'r') {
                double d = real();
                return made(true, r -> Oracle.real(d));
            }
            if (k.type == 'n') {
                String name = name();
                Tree tree = made(isReal(name), r -> valueOf(name, r, k.place));
                tree.bare = name;
                tree.barePlace = k.place;
                return tree;
            }
            if (take("moment")) {
                return made(false, r -> Oracle.whole(r.moment));
            }
            if (is("-")) {
                op();
                deeper();
                at++;
                Tree a = one();
                nest--;
                return made(a.real, r -> fun("-", a.of(r, 1), k.place));
            }
            if (is("(")) {
                deeper();
                at++;
                Tree a = exp();
                need(")");
                nest--;
                return a;
            }
            if (k.type == 'w' && Arrays.asList("abs", "floor", "ceil", "round", "sign", "min", "max").contains(k.text)) {
                op();
                at++;
                if (!is("(")) {
                    throw bad(1);
                }
                deeper();
                at++;
                Tree a = exp();
                if (k.text.startsWith("m")) {
                    need(",");
                    Tree b = exp();
                    need(")");
                    nest--;
                    return made(a.real || b.real, r -> {
                        V x = a.of(r, 1);
                        V y = b.of(r, 1);
                        return act(k.text, x, y, k.place);
                    });
                }
                need(")");
                nest--;
                return made(a.real, r -> fun(k.text, a.of(r, 1), k.place));
            }
            throw bad(1);
        }

        Cond cond() {
            Cond a = both();
            while (is("or")) {
                op();
                at++;
                Cond x = a;
                Cond b = both();
                a = r -> x.of(r) || b.of(r);
            }
            return a;
        }

        Cond both() {
            Cond a = test();
            while (is("and")) {
                op();
                at++;
                Cond x = a;
                Cond b = test();
                a = r -> x.of(r) && b.of(r);
            }
            return a;
        }

        Cond test() {
            if (is("not")) {
                op();
                deeper();
                at++;
                Cond a = test();
                nest--;
                return r -> !a.of(r);
            }
            if (is("[")) {
                deeper();
                at++;
                Cond a = cond();
                need("]");
                nest--;
                return a;
            }
            if (now().type == 'n' && t.get(at + 1).type == 'w' && t.get(at + 1).text.equals("is")) {
                int place = now().place;
                String name = name();
                op();
                at++;
                int sort = now().type == 'w' ? Arrays.asList("there", "missing", "beyond", "other", "impossible").indexOf(now().text)
                    : -1;
                if (sort < 0) {
                    throw bad(1);
                }
                at++;
                return r -> valueOf(name, r, place).sort == sort;
            }
            Tree a = exp();
            String rel = now().text;
            if (!(now().type == 's' || now().type == 'w') || !Arrays.asList("=", "<", "<=", ">", ">=", "unlike").contains(rel)) {
                throw bad(1);
            }
            op();
            at++;
            Tree b = exp();
            int want = rel.equals("=") || rel.equals("unlike") ? 0 : 2;
            return r -> {
                V x = a.of(r, want);
                V y = b.of(r, want);
                if (x.absent() || y.absent()) {
                    return false;
                }
                if (x.sort == 4 || y.sort == 4) {
                    return rel.equals("unlike");
                }
                int c = compare(x, y);
                switch (rel) {
                    case "=": return c == 0;
                    case "<": return c < 0;
                    case "<=": return c <= 0;
                    case ">": return c > 0;
                    case ">=": return c >= 0;
                    default: return c != 0;
                }
            };
        }

        // -- running

        /** 0 nothing, 1 what can be SUMMED, 2 what is in ORDER. */
        void want(String name, int what, int place) {
            if (lets.containsKey(name)) {
                return;
            }
            int sort = seen.get(name).sort;
            if ((what == 1 && sort == 3) || (what == 2 && sort == 0)) {
                throw new Finding(3, place);
            }
        }

        V valueOf(String name, Row r, int place) {
            if (r.own.containsKey(name)) {
                return r.own.get(name);
            }
            Col c = seen.get(name);
            if (c.series == series) {
                return value(c, r.seg, r.row, known, place);
            }
            return r.oseg < 0 ? gone(1) : value(c, r.oseg, r.orow, known, place);
        }

        List<Row> rows(int of) {
            List<Row> rows = new ArrayList<>();
            for (int g = 0; g < s.series.get(of).size(); g++) {
                for (int i = 0; i < s.series.get(of).get(g).size(); i++) {
                    Row r = new Row();
                    r.seg = g;
                    r.row = i;
                    r.moment = s.series.get(of).get(g).get(i);
                    rows.add(r);
                }
            }
            rows.sort(Comparator.comparingLong(r -> r.moment));
            return rows;
        }

        List<Row> join(List<Row> rows) {
            if (link == null) {
                return rows;
            }
            List<Row> others = rows(1 - series);
            List<Row> out = new ArrayList<>();
            for (Row r : rows) {
                if (link.equals("near")) {
                    for (Row o : others) {
                        if (o.moment <= r.moment) {
                            boolean close = r.moment - o.moment <= near;
                            r.oseg = close ? o.seg : -1;
                            r.orow = close ? o.row : -1;
                        }
                    }
                    out.add(r);
                    continue;
                }
                V a = value(seen.get(left.name), r.seg, r.row, known, left.place);
                if (a.sort != 0) {
                    continue;
                }
                for (Row o : others) {
                    V b = value(seen.get(right.name), o.seg, o.row, known, right.place);
                    if (b.sort == 0 && compare(a, b) == 0) {
                        Row n = new Row();
                        n.seg = r.seg;
                        n.row = r.row;
                        n.moment = r.moment;
                        n.oseg = o.seg;
                        n.orow = o.row;
                        out.add(n);
                        if (out.size() > 300) {
                            throw new Finding(4, linkPlace);
                        }
                    }
                }
            }
            return out;
        }

        void fill(List<Row> rows, String name, int place, Object how) {
            List<V> old = new ArrayList<>();
            for (Row r : rows) {
                old.add(valueOf(name, r, place));
            }
            for (int i = 0; i < rows.size(); i++) {
                V v = old.get(i);
                int a = i - 1;
                while (a >= 0 && old.get(a).sort != 0) {
                    a--;
                }
                int b = i + 1;
                while (b < rows.size() && old.get(b).sort != 0) {
                    b++;
                }
                V now = v;
                if (how.equals("last")) {
                    now = v.absent() && a >= 0 ? old.get(a) : v;
                } else if (how.equals("line")) {
                    if (v.absent() && a >= 0 && b < rows.size()) {
                        double m = rows.get(a).moment;
                        double n = rows.get(b).moment;
                        double x = old.get(a).dbl();
                        double y = old.get(b).dbl();
                        now = Oracle.real(m == n ? x : x + (y - x) * ((rows.get(i).moment - m) / (n - m)));
                    } else if (!v.absent()) {
                        now = Oracle.real(v.dbl());
                    }
                } else if (v.absent()) {
                    now = (V) how;
                }
                rows.get(i).own.put(name, now);
            }
        }

        List<V[]> run() {
            query = this;
            List<Row> rows = rows(series);
            rows.removeIf(r -> r.moment < from || r.moment > to);
            rows = join(rows);
            for (Map.Entry<String, Tree> let : lets.entrySet()) {
                for (Row r : rows) {
                    r.own.put(let.getKey(), let.getValue().of(r, 0));
                }
            }
            for (Object[] f : fills) {
                fill(rows, (String) f[0], (Integer) f[1], f[2]);
            }
            if (where != null) {
                List<Row> kept = new ArrayList<>();
                for (Row r : rows) {
                    if (where.of(r)) {
                        kept.add(r);
                    }
                }
                rows = kept;
            }
            List<V[]> out = new ArrayList<>();
            if (!grouped()) {
                if (shape.equals("sort")) {
                    rows = sorted(rows);
                }
                ask();
                for (int i = 0; i < rows.size(); i++) {
                    V[] line = new V[items.size()];
                    for (int j = 0; j < line.length; j++) {
                        line[j] = rowItem(items.get(j), rows, i);
                    }
                    out.add(line);
                }
                return out;
            }
            List<List<Row>> groups = groups(rows);
            ask();
            for (int g = 0; g < groups.size(); g++) {
                V[] line = new V[items.size()];
                for (int j = 0; j < line.length; j++) {
                    line[j] = groupItem(items.get(j), groups.get(g));
                    if (items.get(j).act.equals("moment") && shape.equals("time")) {
                        line[j] = Oracle.whole(rows.get(0).moment + g * span);
                    }
                }
                out.add(line);
            }
            return out;
        }

        int rank(V v, Key k) {
            return v.sort == 0 ? 0 : v.sort == 4 ? (k.impossible ? -1 : 1) : (k.missing ? -2 : 2);
        }

        List<Row> sorted(List<Row> rows) {
            for (Key k : keys) {
                want(k.name, 2, k.place);
            }
            Map<Row, List<V>> values = new HashMap<>();
            for (Row r : rows) {
                values.put(r, new ArrayList<>());
                for (Key k : keys) {
                    values.get(r).add(valueOf(k.name, r, k.place));
                }
            }
            List<Row> copy = new ArrayList<>(rows);
            copy.sort((x, y) -> {
                for (int k = 0; k < keys.size(); k++) {
                    V a = values.get(x).get(k);
                    V b = values.get(y).get(k);
                    int c = Integer.compare(rank(a, keys.get(k)), rank(b, keys.get(k)));
                    if (c == 0 && a.sort == 0) {
                        c = keys.get(k).down ? compare(b, a) : compare(a, b);
                    }
                    if (c != 0) {
                        return c;
                    }
                }
                return 0;
            });
            return copy;
        }

        List<List<Row>> groups(List<Row> rows) {
            List<List<Row>> groups = new ArrayList<>();
            if (shape.equals("all")) {
                groups.add(rows);
            } else if (shape.equals("count")) {
                for (int i = 0; i < rows.size(); i += span) {
                    groups.add(rows.subList(i, (int) Math.min(rows.size(), i + span)));
                }
            } else if (shape.equals("time")) {
                if (!rows.isEmpty()) {
                    long last = rows.get(rows.size() - 1).moment;
                    for (long m = rows.get(0).moment; m <= last; m += span) {
                        List<Row> g = new ArrayList<>();
                        for (Row r : rows) {
                            if (r.moment >= m && r.moment <= m + span - 1) {
                                g.add(r);
                            }
                        }
                        groups.add(g);
                        if (groups.size() > 100) {
                            break;
                        }
                    }
                }
            } else {
                Map<String, List<Row>> map = new LinkedHashMap<>();
                for (Row r : rows) {
                    StringBuilder id = new StringBuilder();
                    for (Key k : keys) {
                        V v = valueOf(k.name, r, k.place);
                        id.append(v.sort == 4 ? "nan" : v.absent() ? "none" : v.real ? "" + (v.d + 0.0) : "" + v.w).append('|');
                    }
                    map.computeIfAbsent(id.toString(), x -> new ArrayList<>()).add(r);
                }
                groups.addAll(map.values());
            }
            if (groups.size() > 100 && !shape.equals("names")) {
                throw new Finding(4, shapePlace);
            }
            return groups;
        }

        void ask() {
            for (Item i : items) {
                if (Arrays.asList("diff", "cum", "sum", "ksum", "mean", "var", "slope", "base").contains(i.act)) {
                    want(i.name, 1, i.namePlace);
                }
                if (Arrays.asList("least", "great", "median", "quant").contains(i.act)) {
                    want(i.name, 2, i.namePlace);
                }
            }
        }

        V rowItem(Item item, List<Row> rows, int i) {
            if (item.act.equals("moment")) {
                return Oracle.whole(rows.get(i).moment);
            }
            V v = valueOf(item.name, rows.get(i), item.namePlace);
            if (item.act.equals("diff")) {
                return i == 0 ? gone(1) : act("-", v, valueOf(item.name, rows.get(i - 1), item.namePlace), item.wordPlace);
            }
            if (item.act.equals("cum") && !v.absent()) {
                int from = i;
                while (from > 0 && !valueOf(item.name, rows.get(from - 1), item.namePlace).absent()) {
                    from--;
                }
                V sum = item.real ? Oracle.real(0.0) : Oracle.whole(0);
                for (int k = from; k <= i; k++) {
                    sum = act("+", sum, valueOf(item.name, rows.get(k), item.namePlace), item.wordPlace);
                }
                return sum;
            }
            return v;
        }

        V groupItem(Item item, List<Row> group) {
            if (item.act.equals("moment")) {
                return group.isEmpty() ? gone(1) : Oracle.whole(group.get(0).moment);
            }
            if (item.act.isEmpty()) {
                return valueOf(item.name, group.get(0), item.namePlace);
            }
            List<V> all = new ArrayList<>();
            for (Row r : group) {
                all.add(valueOf(item.name, r, item.namePlace));
            }
            int sort = Arrays.asList("count", "missing", "beyond", "other", "impossible").indexOf(item.act);
            if (sort >= 0) {
                return Oracle.whole(all.stream().filter(v -> v.sort == sort).count());
            }
            List<V> xs = new ArrayList<>();
            List<Double> times = new ArrayList<>();
            for (int i = 0; i < all.size(); i++) {
                if (!all.get(i).absent()) {
                    xs.add(all.get(i));
                    times.add((double) (group.get(i).moment - group.get(0).moment));
                }
            }
            if (Arrays.asList("least", "great", "median", "quant").contains(item.act)) {
                xs.removeIf(v -> v.sort == 4);
                return xs.isEmpty() ? gone(1) : ranked(item, xs);
            }
            return xs.isEmpty() ? gone(1) : summed(item, xs, times);
        }

        V ranked(Item item, List<V> xs) {
            List<V> order = new ArrayList<>(xs);
            order.sort(Oracle::compare);
            int n = xs.size();
            switch (item.act) {
                case "least": return Collections.min(xs, Oracle::compare);
                case "great": {
                    V best = xs.get(0);
                    for (V x : xs) {
                        best = compare(x, best) > 0 ? x : best;
                    }
                    return best;
                }
                case "median":
                    return Oracle.real(n % 2 == 1 ? order.get(n / 2).dbl() : (order.get(n / 2 - 1).dbl() + order.get(n / 2).dbl()) / 2.0);
                default: {
                    int k = (int) Math.ceil(item.share * n / 100.0 - 1e-9);
                    return order.get(k == 0 ? 0 : k - 1);
                }
            }
        }

        V summed(Item item, List<V> xs, List<Double> times) {
            double n = xs.size();
            double sum = 0.0;
            BigInteger exact = BigInteger.ZERO;
            for (V x : xs) {
                sum += x.dbl();
                exact = exact.add(BigInteger.valueOf(x.w));
            }
            switch (item.act) {
                case "first": return xs.get(0);
                case "last": return xs.get(xs.size() - 1);
                case "sum": return item.real ? Oracle.real(sum) : fit(exact, item.wordPlace);
                case "mean": return Oracle.real(sum / n);
                case "var": {
                    double v = 0.0;
                    for (V x : xs) {
                        v += (x.dbl() - sum / n) * (x.dbl() - sum / n);
                    }
                    return Oracle.real(v / n);
                }
                case "ksum": {
                    double total = 0.0;
                    double c = 0.0;
                    for (V v : xs) {
                        double x = v.dbl();
                        double t = total + x;
                        if (Math.abs(total) >= Math.abs(x)) {
                            c = c + ((total - t) + x);
                        } else {
                            c = c + ((x - t) + total);
                        }
                        total = t;
                    }
                    return Oracle.real(total + c);
                }
                default: {
                    double x = 0.0;
                    double y = 0.0;
                    double p = 0.0;
                    double q = 0.0;
                    for (int i = 0; i < xs.size(); i++) {
                        x += times.get(i);
                        y += xs.get(i).dbl();
                        p += times.get(i) * xs.get(i).dbl();
                        q += times.get(i) * times.get(i);
                    }
                    double slope = (n * p - x * y) / (n * q - x * x);
                    return Oracle.real(item.act.equals("slope") ? slope : (y - slope * x) / n);
                }
            }
        }

        boolean whole() {
            for (Col c : reads) {
                if (col(numbers.get(c)) != c) {
                    return false;
                }
            }
            return true;
        }

        int cost(int way) {
            int r = count(2 + series);
            int tt = link == null ? 0 : count(3 - series);
            int ss = count(series);
            int c = reads.size();
            boolean kept = simple && shape.equals("all");
            for (Item i : items) {
                kept &= (i.act.equals("count") || i.act.equals("sum")) && seen.get(i.name) != null
                    && Arrays.asList(0, 1, 2, 4, 5).contains(seen.get(i.name).sort);
            }
            switch (way) {
                case 0: return 4 * r * c + 2 * tt;
                case 1: return 30 + ss * c + r + 3 * tt;
                case 2: return kept ? 10 + ss * items.size() : NONE;
                default: return shape.equals("names") ? 20 + 2 * r * c + r / 2 : NONE;
            }
        }

        int way() {
            if (forced != NONE && cost(forced) != NONE) {
                return forced;
            }
            int best = 0;
            for (int w = 1; w < 4; w++) {
                best = cost(w) != NONE && cost(w) < cost(best) ? w : best;
            }
            return best;
        }
    }

    // ---- queries

    int query() {
        if (queries.size() == 8) {
            return ROOM;
        }
        byte[] text = tape;
        tape = new byte[0];
        try {
            queries.add(new Query().parse(text));
            lastFault = 0;
            return queries.size() - 1;
        } catch (Fault f) {
            lastFault = f.code;
            return -200 - f.place;
        }
    }

    int fault() {
        return lastFault;
    }

    Query at(int q) {
        return q >= 0 && q < queries.size() ? queries.get(q) : null;
    }

    int cost(int q, int way) {
        if (at(q) == null) {
            return UNKNOWN;
        }
        if (way < 0 || way > 3) {
            return OUTSIDE;
        }
        return at(q).whole() ? at(q).cost(way) : STATE;
    }

    int way(int q) {
        return at(q) == null ? UNKNOWN : at(q).whole() ? at(q).way() : STATE;
    }

    int force(int q, int way) {
        if (at(q) == null) {
            return UNKNOWN;
        }
        if (way != NONE && (way < 0 || way > 3)) {
            return OUTSIDE;
        }
        at(q).forced = way;
        return 1;
    }

    int run(int q) {
        if (at(q) == null) {
            return UNKNOWN;
        }
        if (!at(q).whole()) {
            return STATE;
        }
        if (runs == 150) {
            return ROOM;
        }
        runs++;
        lastWay = at(q).way();
        try {
            result = at(q).run();
            finding = 0;
            findingPlace = NONE;
            resultReal = new boolean[at(q).items.size()];
            for (int j = 0; j < resultReal.length; j++) {
                resultReal[j] = at(q).items.get(j).real;
            }
            return result.size();
        } catch (Finding f) {
            result = null;
            resultReal = new boolean[0];
            finding = f.code;
            findingPlace = f.place;
            return -10 - f.code;
        }
    }

    int ended(int what) {
        switch (what) {
            case 0: return finding;
            case 1: return findingPlace;
            case 2: return lastWay;
            case 3: return resultReal.length;
            case 4: return result == null ? 0 : result.size();
            default: return OUTSIDE;
        }
    }

    int sort(int i, int j) {
        return result == null || i < 0 || i >= result.size() || j < 0 || j >= resultReal.length ? UNKNOWN : result.get(i)[j].sort;
    }

    long cell(int i, int j) {
        return sort(i, j) == UNKNOWN ? 0 : result.get(i)[j].bits();
    }

    int real(int j) {
        return j < 0 || j >= resultReal.length ? UNKNOWN : resultReal[j] ? 1 : 0;
    }

    long digest() {
        long h = 17;
        for (int i = 0; i < ended(4); i++) {
            for (int j = 0; j < ended(3); j++) {
                h = 31 * h + sort(i, j);
                h = 31 * h + cell(i, j);
            }
        }
        return h;
    }

    // ---- marks

    int mark() {
        if (marks.size() == 3) {
            return ROOM;
        }
        marks.add(s.copy());
        return marks.size() - 1;
    }

    int undo(int mark) {
        if (mark < 0 || mark >= marks.size()) {
            return UNKNOWN;
        }
        int gone = marks.size() - 1 - mark;
        while (marks.size() > mark + 1) {
            marks.remove(mark + 1);
        }
        s = marks.get(mark).copy();
        return gone;
    }

    int count(int what) {
        switch (what) {
            case 0:
            case 1: return s.series.get(what).size();
            case 2:
            case 3: return s.series.get(what - 2).stream().mapToInt(List::size).sum();
            case 4: return s.cols.size();
            case 5: return s.cors.size();
            case 6: return queries.size();
            case 7: return marks.size();
            case 8: return runs;
            case 9: return tape.length;
            default: return OUTSIDE;
        }
    }

    int clear() {
        int n = s.cols.size();
        s = new State();
        marks.clear();
        tape = new byte[0];
        queries.clear();
        lastFault = 0;
        finding = 0;
        findingPlace = NONE;
        lastWay = NONE;
        result = null;
        resultReal = new boolean[0];
        return n;
    }
}

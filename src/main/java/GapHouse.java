import java.util.Arrays;

/** A gap store: measurements with gaps, corrected by what was known when, and asked by texts. */
public final class GapHouse {

    public static final int UNKNOWN = -101, OUTSIDE = -102, STATE = -103, ROOM = -104, NONE = -109;

    private static final long LIMIT = 1000000000000L;
    private static final long LEAST = 0x8000000000000000L;
    private static final long GREATEST = 0x7fffffffffffffffL;
    private static final int SERIES = 2;
    private static final int SEGMENTS = 6;
    private static final int ROWS = 16;
    private static final int LINE = SEGMENTS * ROWS;
    private static final int COLUMNS = 16;
    private static final int PLACES = 20;
    private static final int CORRECTIONS = 40;
    private static final int TAPE = 600;
    private static final int QUERIES = 8;
    private static final int MARKS = 3;
    private static final int RUNS = 150;
    private static final int JOINED = 300;
    private static final int SPANS = 100;
    private static final int LETS = 4;
    private static final int FILLS = 3;
    private static final int KEYS = 3;
    private static final int ITEMS = 6;
    private static final int CODE = 128;
    private static final int WAYS = 4;

    // The sorts of COLUMNS; the first eight are the KINDS of ARRAYS, too.
    private static final int TRUTHS = 0, BYTES = 1, SHORTS = 2, CODES = 3, INTS = 4, LONGS = 5, FLOATS = 6,
        DOUBLES = 7, CONSTANT = 8, SCALED = 9, DERIVED = 10;
    private static final int NOTHING = -1;

    // The sorts of CELLS; below 0 they are FINDINGS (as FINDINGS without the sign).
    private static final int NUMBER = 0, MISSING = 1, BEYOND = 2, OTHER = 3, IMPOSSIBLE = 4,
        OVERFLOW = -1, ZERO = -2, KIND = -3, FULL = -4;

    private final Store held = new Store();
    private final Store[] marks = new Store[MARKS];
    private int markCount;
    private final byte[] tape = new byte[TAPE];
    private int tapeLength;
    private final Query[] queries = new Query[QUERIES];
    private int queryCount;
    private final Tokens tokens = new Tokens();
    private final Parser parser = new Parser();
    private int lastFault;
    private final Table table = new Table();
    private final Groups groups = new Groups();
    private final Giver giver = new Giver();
    private int lastWay = NONE;
    private int runs;
    private long births;
    private final byte[] spelled = new byte[Tokens.LONGEST_NAME];

    public GapHouse() {
        for (int i = 0; i < MARKS; i++) {
            marks[i] = new Store();
        }
        for (int i = 0; i < QUERIES; i++) {
            queries[i] = new Query();
        }
    }

    // ---- the tape

    public int feed(int a, int b, int c, int d, int e) {
        if (tapeLength + 20 > TAPE) {
            return ROOM;
        }
        feedNumber(a);
        feedNumber(b);
        feedNumber(c);
        feedNumber(d);
        feedNumber(e);
        return tapeLength;
    }

    private void feedNumber(int number) {
        for (int shift = 24; shift >= 0 && tapeLength < TAPE; shift -= 8) {
            tape[tapeLength] = (byte) (number >>> shift);
            tapeLength++;
        }
    }

    public int end(int n) {
        if (n < 0 || n > tapeLength) {
            return OUTSIDE;
        }
        tapeLength = n;
        return n;
    }

    // ---- series, columns, arrays

    public int segment(int series) {
        if (!isSeries(series)) {
            return UNKNOWN;
        }
        if (held.segments[series] >= SEGMENTS) {
            return ROOM;
        }
        return held.addSegment(series);
    }

    public int late(int series, int segment, long moment) {
        if (!held.hasSegment(series, segment)) {
            return UNKNOWN;
        }
        if (!isWithin(moment, -LIMIT, LIMIT)) {
            return OUTSIDE;
        }
        if (held.rows[series * SEGMENTS + segment] >= ROWS) {
            return ROOM;
        }
        return held.addRow(series, segment, moment);
    }

    public int plain(int series, long name, int kind) {
        if (!isSeries(series)) {
            return UNKNOWN;
        }
        if (!isWithin(kind, TRUTHS, DOUBLES)) {
            return OUTSIDE;
        }
        int refusal = refusalOfName(name);
        return refusal != 0 ? refusal : held.addColumn(newColumn(name, series, kind));
    }

    public int constant(int series, long name, long v, boolean real) {
        if (!isSeries(series)) {
            return UNKNOWN;
        }
        if (!isWithin(v, -LIMIT, LIMIT)) {
            return OUTSIDE;
        }
        int refusal = refusalOfName(name);
        if (refusal != 0) {
            return refusal;
        }
        Column column = newColumn(name, series, CONSTANT);
        column.real = real;
        column.value = real ? Real.thousandths(v) : v;
        return held.addColumn(column);
    }

    public int scaled(long name, int column, int a, int b) {
        Column under = held.columnAt(column);
        if (under == null) {
            return UNKNOWN;
        }
        int refusal = refusalOfName(name);
        if (refusal != 0) {
            return refusal;
        }
        Column made = newColumn(name, under.series, SCALED);
        made.left = column;
        made.value = Real.thousandths(a);
        made.offset = Real.thousandths(b);
        made.real = true;
        made.reads = under.reads;
        made.over |= under.over;
        return held.addColumn(made);
    }

    public int derived(long name, int left, int right, int act) {
        Column first = held.columnAt(left);
        Column second = held.columnAt(right);
        if (first == null || second == null) {
            return UNKNOWN;
        }
        if (!isWithin(act, Reckoner.ADD, Reckoner.REMAIN) || first.series != second.series) {
            return OUTSIDE;
        }
        int refusal = refusalOfName(name);
        if ((refusal == 0 || refusal == ROOM) && first.reads + second.reads > 2) {
            return STATE;
        }
        if (refusal != 0) {
            return refusal;
        }
        Column made = newColumn(name, first.series, DERIVED);
        made.left = left;
        made.right = right;
        made.act = act;
        made.real = first.real || second.real;
        made.reads = first.reads + second.reads;
        made.over |= first.over | second.over;
        return held.addColumn(made);
    }

    public int put(int column, int segment, int kind, int n) {
        if (!held.hasPlace(column, segment)) {
            return UNKNOWN;
        }
        if (!isWithin(kind, TRUTHS, DOUBLES) || n > PLACES) {
            return OUTSIDE;
        }
        if (!held.isPlain(column)) {
            return STATE;
        }
        if (n < 0) {
            return -10;
        }
        held.newArray(column, segment, kind, n, 0);
        return 1;
    }

    public int store(int column, int segment, int i, long v, boolean real) {
        if (!held.hasPlace(column, segment)) {
            return UNKNOWN;
        }
        if (!held.isPlain(column)) {
            return STATE;
        }
        int at = column * SEGMENTS + segment;
        if (held.kinds[at] == NOTHING) {
            return -11;
        }
        if (i < 0 || i >= held.lengths[at]) {
            return -12;
        }
        held.places[at * PLACES + i] = Real.stored(held.kinds[at], v, real);
        return 1;
    }

    public int drop(int column, int segment) {
        if (!held.hasPlace(column, segment)) {
            return UNKNOWN;
        }
        if (!held.isPlain(column)) {
            return STATE;
        }
        int at = column * SEGMENTS + segment;
        int dropped = held.kinds[at] == NOTHING ? 0 : 1;
        held.kinds[at] = NOTHING;
        return dropped;
    }

    public int spread(int column, long v, boolean real) {
        Column to = held.columnAt(column);
        if (to == null) {
            return UNKNOWN;
        }
        if (!to.isPlain()) {
            return STATE;
        }
        long value = Real.stored(to.sort, v, real);
        int segments = held.segments[to.series];
        for (int segment = 0; segment < segments; segment++) {
            held.newArray(column, segment, to.sort, held.rows[to.series * SEGMENTS + segment], value);
        }
        return segments;
    }

    public int glue(int series, int segment) {
        if (!held.hasSegment(series, segment) || !held.hasSegment(series, segment + 1)) {
            return UNKNOWN;
        }
        int at = series * SEGMENTS + segment;
        if (held.rows[at] + held.rows[at + 1] > ROWS) {
            return ROOM;
        }
        int refusal = held.refusalOfGlue(series, segment);
        return refusal != 0 ? refusal : held.join(series, segment);
    }

    public int thin(int series, int n) {
        if (!isSeries(series)) {
            return UNKNOWN;
        }
        if (!isWithin(n, 2, 10)) {
            return OUTSIDE;
        }
        return held.thinOut(series, n);
    }

    public int correct(int column, int segment, int row, long v, boolean real, long known) {
        if (!held.hasCell(column, segment, row)) {
            return UNKNOWN;
        }
        if (!isWithin(known, 0, LIMIT)) {
            return OUTSIDE;
        }
        if (!held.isPlain(column)) {
            return STATE;
        }
        if (held.corrections >= CORRECTIONS) {
            return ROOM;
        }
        return held.addCorrection(column, segment * ROWS + row, v, real, known);
    }

    public int look(int column, int segment, int row, long known) {
        if (!held.hasCell(column, segment, row)) {
            return UNKNOWN;
        }
        held.readCell(column, segment * ROWS + row, known, table.mine);
        return table.mine.sort;
    }

    public long read(int column, int segment, int row, long known) {
        if (!held.hasCell(column, segment, row)) {
            return 0;
        }
        held.readCell(column, segment * ROWS + row, known, table.mine);
        return table.mine.bits;
    }

    public int array(int column, int segment, int what) {
        if (!held.hasPlace(column, segment)) {
            return UNKNOWN;
        }
        if (!isWithin(what, 0, 1)) {
            return OUTSIDE;
        }
        if (!held.isPlain(column)) {
            return STATE;
        }
        int at = column * SEGMENTS + segment;
        if (held.kinds[at] == NOTHING) {
            return NONE;
        }
        return what == 0 ? held.kinds[at] : held.lengths[at];
    }

    public int told(int column, int what) {
        Column of = held.columnAt(column);
        if (of == null) {
            return UNKNOWN;
        }
        switch (what) {
            case 0:
                return of.series;
            case 1:
                return of.sort;
            case 2:
                return of.inOrder() ? 1 : 0;
            case 3:
                return of.canBeSummed() ? 1 : 0;
            case 4:
                return of.real ? 1 : 0;
            case 5:
                return of.reads;
            default:
                return OUTSIDE;
        }
    }

    public int find(long name) {
        int column = held.columnNamed(name);
        return column < 0 ? NONE : column;
    }

    public long moment(int series, int segment, int row) {
        return held.hasRow(series, segment, row) ? held.momentAt(series, segment * ROWS + row) : 0;
    }

    // ---- queries

    public int query() {
        if (queryCount >= QUERIES) {
            return ROOM;
        }
        tokens.cut(tape, tapeLength);
        tapeLength = 0;
        parser.parse(tokens, held, queries[queryCount]);
        lastFault = parser.fault;
        if (lastFault != 0) {
            return -200 - parser.place;
        }
        queryCount++;
        return queryCount - 1;
    }

    public int fault() {
        return lastFault;
    }

    public int cost(int query, int way) {
        if (!hasQuery(query)) {
            return UNKNOWN;
        }
        if (!isWithin(way, 0, WAYS - 1)) {
            return OUTSIDE;
        }
        return isWhole(queries[query]) ? costOf(queries[query], way) : STATE;
    }

    public int way(int query) {
        if (!hasQuery(query)) {
            return UNKNOWN;
        }
        return isWhole(queries[query]) ? chosenWay(queries[query]) : STATE;
    }

    public int force(int query, int way) {
        if (!hasQuery(query)) {
            return UNKNOWN;
        }
        if (way != NONE && !isWithin(way, 0, WAYS - 1)) {
            return OUTSIDE;
        }
        queries[query].forced = way;
        return 1;
    }

    public int run(int query) {
        if (!hasQuery(query)) {
            return UNKNOWN;
        }
        Query asked = queries[query];
        if (!isWhole(asked)) {
            return STATE;
        }
        if (runs >= RUNS) {
            return ROOM;
        }
        runs++;
        lastWay = chosenWay(asked);
        giver.forget();
        table.begin(held, asked);
        table.loadColumns();
        table.joinRows();
        table.workLets();
        table.workFills();
        table.filterRows();
        groups.form(table);
        giver.ask(table);
        if (asked.isGrouped()) {
            giver.giveGroups(table, groups);
        } else {
            giver.giveRows(table);
        }
        if (table.finding != 0) {
            giver.forget();
            return -10 - table.finding;
        }
        return giver.rows;
    }

    public int ended(int what) {
        switch (what) {
            case 0:
                return table.finding;
            case 1:
                return table.place;
            case 2:
                return lastWay;
            case 3:
                return giver.items;
            case 4:
                return giver.rows;
            default:
                return OUTSIDE;
        }
    }

    public int sort(int i, int j) {
        return giver.hasCell(i, j) ? giver.sorts[i * giver.items + j] : UNKNOWN;
    }

    public long cell(int i, int j) {
        return giver.hasCell(i, j) ? giver.bits[i * giver.items + j] : 0;
    }

    public int real(int j) {
        if (j < 0 || j >= giver.items) {
            return UNKNOWN;
        }
        return giver.reals[j] ? 1 : 0;
    }

    public long digest() {
        long h = 17;
        int cells = giver.rows * giver.items;
        for (int i = 0; i < cells; i++) {
            h = 31 * h + giver.sorts[i];
            h = 31 * h + giver.bits[i];
        }
        return h;
    }

    // ---- marks

    public int mark() {
        if (markCount >= MARKS) {
            return ROOM;
        }
        marks[markCount].copyFrom(held);
        markCount++;
        return markCount - 1;
    }

    public int undo(int mark) {
        if (mark < 0 || mark >= markCount) {
            return UNKNOWN;
        }
        held.copyFrom(marks[mark]);
        int gone = markCount - 1 - mark;
        markCount = mark + 1;
        return gone;
    }

    public int count(int what) {
        switch (what) {
            case 0:
                return held.segments[0];
            case 1:
                return held.segments[1];
            case 2:
                return held.rowsOf(0);
            case 3:
                return held.rowsOf(1);
            case 4:
                return held.columnCount;
            case 5:
                return held.corrections;
            case 6:
                return queryCount;
            case 7:
                return markCount;
            case 8:
                return runs;
            case 9:
                return tapeLength;
            default:
                return OUTSIDE;
        }
    }

    public int clear() {
        int columns = held.columnCount;
        held.empty();
        markCount = 0;
        tapeLength = 0;
        queryCount = 0;
        lastFault = 0;
        lastWay = NONE;
        table.forget();
        giver.forget();
        return columns;
    }

    // ---- what several calls need

    private static boolean isSeries(int series) {
        return series == 0 || series == 1;
    }

    private static boolean isWithin(long number, long least, long greatest) {
        return number >= least && number <= greatest;
    }

    private boolean isName(long name) {
        int length = 0;
        for (int shift = 56; shift >= 0; shift -= 8) {
            int letter = (int) (name >>> shift) & 255;
            if (letter != 0 || length > 0) {
                if (!Tokens.isLetter(letter) || length >= Tokens.LONGEST_NAME) {
                    return false;
                }
                spelled[length] = (byte) letter;
                length++;
            }
        }
        return length > 0 && Tokens.wordAt(spelled, 0, length) < 0;
    }

    /** What stands against a new COLUMN of this NAME, 0 if nothing does. */
    private int refusalOfName(long name) {
        if (!isName(name)) {
            return OUTSIDE;
        }
        if (held.columnNamed(name) >= 0) {
            return STATE;
        }
        return held.columnCount >= COLUMNS ? ROOM : 0;
    }

    private Column newColumn(long name, int series, int sort) {
        births++;
        return new Column(name, series, sort, held.columnCount, births);
    }

    private boolean hasQuery(int query) {
        return query >= 0 && query < queryCount;
    }

    /** Whether all COLUMNS that a QUERY reads are still there; numbers may have gone to others. */
    private boolean isWhole(Query query) {
        for (int i = 0; i < COLUMNS; i++) {
            if ((query.reads >> i & 1) == 1) {
                Column column = held.columnAt(i);
                if (column == null || column.birth != query.births[i]) {
                    return false;
                }
            }
        }
        return true;
    }

    private int costOf(Query query, int way) {
        int rows = held.rowsOf(query.series);
        int joined = query.link == Query.ALONE ? 0 : held.rowsOf(1 - query.series);
        int segments = held.segments[query.series];
        int columns = Integer.bitCount(query.reads);
        switch (way) {
            case 0:
                return 4 * rows * columns + 2 * joined;
            case 1:
                return 30 + segments * columns + rows + 3 * joined;
            case 2:
                return query.summable ? 10 + segments * query.items.size : NONE;
            default:
                return query.shape == Query.BY_NAMES ? 20 + 2 * rows * columns + rows / 2 : NONE;
        }
    }

    private int chosenWay(Query query) {
        if (query.forced != NONE && costOf(query, query.forced) != NONE) {
            return query.forced;
        }
        int best = 0;
        int least = costOf(query, 0);
        for (int way = 1; way < WAYS; way++) {
            int price = costOf(query, way);
            if (price != NONE && price < least) {
                best = way;
                least = price;
            }
        }
        return best;
    }

    /** Doubles as their bits, reckoned by whole numbers alone, so that what is no number is only a value. */
    static final class Real {
        static final long NO_NUMBER = 0x7ff8000000000000L;
        static final long ONE = 0x3ff0000000000000L;
        static final long TWO = 0x4000000000000000L;
        private static final long INFINITE = 0x7ff0000000000000L;
        private static final long SIGN = 0x8000000000000000L;
        private static final long SIZE = 0x7fffffffffffffffL;
        private static final long UNIT = 0x0010000000000000L;
        private static final long ALL_WHOLE = 0x4330000000000000L;
        private static final long THOUSAND = 0x408f400000000000L;
        private static final int LOWEST = -1074;

        private Real() {
        }

        static boolean isNone(long a) {
            return (a & SIZE) > INFINITE;
        }

        static boolean isInfinite(long a) {
            return (a & SIZE) == INFINITE;
        }

        static boolean isZero(long a) {
            return (a & SIZE) == 0;
        }

        private static int exponentOf(long a) {
            int field = (int) (a >>> 52) & 2047;
            return field == 0 ? LOWEST : field - 1075;
        }

        private static long figureOf(long a) {
            long fraction = a & (UNIT - 1);
            return (a & INFINITE) == 0 ? fraction : fraction | UNIT;
        }

        /**
         * The nearest double (or float) to figure times 2 to the exponent. The figure has no sign; where more
         * than fits stands in it, its lowest bit stands for all that was cut off below it.
         */
        private static long nearest(long sign, long figure, int exponent, boolean single) {
            int length = 64 - Long.numberOfLeadingZeros(figure);
            int keep = single ? 24 : 53;
            int cut = Math.max(exponent + length - keep, single ? -149 : LOWEST) - exponent;
            if (figure == 0 || cut > 63) {
                return sign;
            }
            long kept = figure;
            int scale = exponent;
            if (cut > 0) {
                long half = 1L << (cut - 1);
                long rest = figure & (half | (half - 1));
                kept = figure >>> cut;
                kept += rest > half || (rest == half && (kept & 1) == 1) ? 1 : 0;
                scale += cut;
            }
            if (kept == 0) {
                return sign;
            }
            if (kept >= 2 * UNIT) {
                kept >>>= 1;
                scale++;
            }
            int shift = Math.min(Long.numberOfLeadingZeros(kept) - 11, scale - LOWEST);
            kept <<= shift;
            scale -= shift;
            if (kept < UNIT) {
                return sign | kept;
            }
            if (scale + 53 > (single ? 128 : 1024)) {
                return sign | INFINITE;
            }
            return sign | (((long) (scale - LOWEST) << 52) + kept);
        }

        static long ofWhole(long whole) {
            return whole < 0 ? nearest(SIGN, -whole, 0, false) : nearest(0, whole, 0, false);
        }

        private static long singleOfWhole(long whole) {
            return whole < 0 ? nearest(SIGN, -whole, 0, true) : nearest(0, whole, 0, true);
        }

        static long thousandths(long whole) {
            return divide(ofWhole(whole), THOUSAND);
        }

        private static long single(long a) {
            if (isNone(a)) {
                return NO_NUMBER;
            }
            return isInfinite(a) ? a : nearest(a & SIGN, figureOf(a), exponentOf(a), true);
        }

        static long negative(long a) {
            return isNone(a) ? NO_NUMBER : a ^ SIGN;
        }

        static long size(long a) {
            return isNone(a) ? NO_NUMBER : a & SIZE;
        }

        static long add(long a, long b) {
            if (isNone(a) || isNone(b)) {
                return NO_NUMBER;
            }
            if (isInfinite(a)) {
                return isInfinite(b) && a != b ? NO_NUMBER : a;
            }
            if (isInfinite(b) || (isZero(a) && !isZero(b))) {
                return b;
            }
            if (isZero(b)) {
                return isZero(a) ? a & b : a;
            }
            boolean turned = exponentOf(a) < exponentOf(b);
            long great = turned ? b : a;
            long small = turned ? a : b;
            int exponent = exponentOf(great) - 9;
            long figure = figureOf(great) << 9;
            long other = lowered(figureOf(small) << 9, exponentOf(great) - exponentOf(small));
            if ((a ^ b) >= 0) {
                return nearest(great & SIGN, figure + other, exponent, false);
            }
            long rest = figure - other;
            if (rest == 0) {
                return 0;
            }
            return rest > 0 ? nearest(great & SIGN, rest, exponent, false)
                : nearest(small & SIGN, -rest, exponent, false);
        }

        /** A figure shifted down; its lowest bit tells of all that fell out. */
        private static long lowered(long figure, int by) {
            if (by > 62) {
                return 1;
            }
            long lost = figure & ((1L << by) - 1);
            return figure >>> by | (lost == 0 ? 0 : 1);
        }

        static long multiply(long a, long b) {
            if (isNone(a) || isNone(b)) {
                return NO_NUMBER;
            }
            long sign = (a ^ b) & SIGN;
            if (isInfinite(a) || isInfinite(b)) {
                return isZero(a) || isZero(b) ? NO_NUMBER : sign | INFINITE;
            }
            if (isZero(a) || isZero(b)) {
                return sign;
            }
            int liftA = Long.numberOfLeadingZeros(figureOf(a)) - 11;
            int liftB = Long.numberOfLeadingZeros(figureOf(b)) - 11;
            long x = figureOf(a) << liftA;
            long y = figureOf(b) << liftB;
            long mask = (1L << 27) - 1;
            long low = (x & mask) * (y & mask);
            long middle = (x >>> 27) * (y & mask) + (x & mask) * (y >>> 27) + (low >>> 27);
            long figure = ((x >>> 27) * (y >>> 27) << 10) + (middle >>> 17);
            boolean cut = (middle & ((1L << 17) - 1)) != 0 || (low & mask) != 0;
            return nearest(sign, figure | (cut ? 1 : 0), exponentOf(a) - liftA + exponentOf(b) - liftB + 44, false);
        }

        static long divide(long a, long b) {
            if (isNone(a) || isNone(b) || (isInfinite(a) && isInfinite(b)) || (isZero(a) && isZero(b))) {
                return NO_NUMBER;
            }
            long sign = (a ^ b) & SIGN;
            if (isInfinite(a) || isZero(b)) {
                return sign | INFINITE;
            }
            if (isZero(a) || isInfinite(b)) {
                return sign;
            }
            int liftA = Long.numberOfLeadingZeros(figureOf(a)) - 11;
            int liftB = Long.numberOfLeadingZeros(figureOf(b)) - 11;
            long divisor = figureOf(b) << liftB;
            if (divisor == 0) {
                return NO_NUMBER;
            }
            long rest = figureOf(a) << liftA;
            long figure = rest / divisor;
            rest %= divisor;
            // Six steps of ten bits: a rest below 2^53 leaves room for ten more each time.
            for (int i = 0; i < 6; i++) {
                figure = figure << 10 | (rest << 10) / divisor;
                rest = (rest << 10) % divisor;
            }
            int exponent = exponentOf(a) - liftA - exponentOf(b) + liftB - 60;
            return nearest(sign, figure | (rest == 0 ? 0 : 1), exponent, false);
        }

        static long remain(long a, long b) {
            if (isNone(a) || isNone(b) || isInfinite(a) || isZero(b)) {
                return NO_NUMBER;
            }
            if (isInfinite(b) || (a & SIZE) < (b & SIZE)) {
                return a;
            }
            long divisor = figureOf(b);
            if (divisor == 0) {
                return NO_NUMBER;
            }
            long rest = figureOf(a) % divisor;
            int left = exponentOf(a) - exponentOf(b);
            for (int turn = 0; turn < 2100 && left > 0; turn++) {
                int step = Math.min(left, 10);
                rest = (rest << step) % divisor;
                left -= step;
            }
            return nearest(a & SIGN, rest, exponentOf(b), false);
        }

        /** An act of two, by its number. */
        static long reckoned(int act, long a, long b) {
            switch (act) {
                case Reckoner.ADD:
                    return add(a, b);
                case Reckoner.SUBTRACT:
                    return add(a, negative(b));
                case Reckoner.MULTIPLY:
                    return multiply(a, b);
                case Reckoner.DIVIDE:
                    return divide(a, b);
                case Reckoner.REMAIN:
                    return remain(a, b);
                case Reckoner.LESSER:
                    return lesser(a, b);
                default:
                    return greater(a, b);
            }
        }

        /** Numbers in the order of their bits: -0.0 stands below 0.0 here. */
        private static long rank(long a) {
            return a ^ (a >> 63 & SIZE);
        }

        /** Below 0, 0, above 0; neither is IMPOSSIBLE. */
        static int compare(long a, long b) {
            return isZero(a) && isZero(b) ? 0 : Long.compare(rank(a), rank(b));
        }

        static long lesser(long a, long b) {
            if (isNone(a) || isNone(b)) {
                return NO_NUMBER;
            }
            return rank(a) <= rank(b) ? a : b;
        }

        static long greater(long a, long b) {
            if (isNone(a) || isNone(b)) {
                return NO_NUMBER;
            }
            return rank(a) >= rank(b) ? a : b;
        }

        private static long cutOff(long a) {
            int behind = -exponentOf(a);
            if (behind <= 0 || isZero(a)) {
                return a;
            }
            return behind > 52 ? a & SIGN : a & -(1L << behind);
        }

        static long floor(long a) {
            if (isNone(a)) {
                return NO_NUMBER;
            }
            long whole = cutOff(a);
            return a < 0 && whole != a ? add(whole, ONE | SIGN) : whole;
        }

        static long ceiling(long a) {
            if (isNone(a)) {
                return NO_NUMBER;
            }
            long whole = cutOff(a);
            return a >= 0 && whole != a ? add(whole, ONE) : whole;
        }

        /** Beyond 2^52 doubles have no places behind the point: adding it rounds, taking it off shows what is left. */
        static long rounded(long a) {
            if (isNone(a)) {
                return NO_NUMBER;
            }
            long size = a & SIZE;
            if (size >= ALL_WHOLE) {
                return a;
            }
            return a & SIGN | add(add(size, ALL_WHOLE), ALL_WHOLE | SIGN);
        }

        static long signOf(long a) {
            return isNone(a) || isZero(a) ? a : a & SIGN | ONE;
        }

        private static long toLong(long a) {
            if (isNone(a)) {
                return 0;
            }
            int exponent = exponentOf(a);
            if (exponent > 10) {
                return a < 0 ? LEAST : GREATEST;
            }
            long size = exponent >= 0 ? figureOf(a) << exponent : exponent < -63 ? 0 : figureOf(a) >>> -exponent;
            return a < 0 ? -size : size;
        }

        private static int toInt(long a) {
            return (int) Math.max(-0x80000000L, Math.min(0x7fffffffL, toLong(a)));
        }

        /** What comes out of an ARRAY of a KIND when v was stored there. */
        static long stored(int kind, long v, boolean real) {
            if (real) {
                return storedReal(kind, v);
            }
            switch (kind) {
                case TRUTHS:
                    return v == 0 ? 0 : 1;
                case BYTES:
                    return (byte) v;
                case SHORTS:
                    return (short) v;
                case CODES:
                    return (char) v;
                case INTS:
                    return (int) v;
                case FLOATS:
                    return singleOfWhole(v);
                case DOUBLES:
                    return ofWhole(v);
                default:
                    return v;
            }
        }

        private static long storedReal(int kind, long a) {
            switch (kind) {
                case TRUTHS:
                    return isZero(a) ? 0 : 1;
                case BYTES:
                    return (byte) toInt(a);
                case SHORTS:
                    return (short) toInt(a);
                case CODES:
                    return (char) toInt(a);
                case INTS:
                    return toInt(a);
                case LONGS:
                    return toLong(a);
                case FLOATS:
                    return single(a);
                default:
                    return isNone(a) ? NO_NUMBER : a;
            }
        }
    }

    /** A NUMBER, or why there is none; reckoning changes it in place. */
    static final class Cell {
        int sort = MISSING;
        boolean real;
        long bits;

        void setWhole(long value) {
            hold(NUMBER, value, false);
        }

        void setReal(long value) {
            boolean none = Real.isNone(value);
            hold(none ? IMPOSSIBLE : NUMBER, none ? Real.NO_NUMBER : value, true);
        }

        void setNumber(long value, boolean isReal) {
            if (isReal) {
                setReal(value);
            } else {
                setWhole(value);
            }
        }

        void setEmpty(int why) {
            hold(why, 0, false);
        }

        void hold(int newSort, long newBits, boolean newReal) {
            sort = newSort;
            bits = newBits;
            real = newReal;
        }

        boolean isNumber() {
            return sort == NUMBER || sort == IMPOSSIBLE;
        }

        boolean isAbsent() {
            return sort == MISSING || sort == BEYOND || sort == OTHER;
        }

        long asReal() {
            return real ? bits : Real.ofWhole(bits);
        }

        /** Below 0, 0, above 0; both hold NUMBERS that are not IMPOSSIBLE. */
        int compareWith(Cell other) {
            if (!real && !other.real) {
                return Long.compare(bits, other.bits);
            }
            long own = real ? bits : Real.ofWhole(bits);
            return Real.compare(own, other.real ? other.bits : Real.ofWhole(other.bits));
        }

        /** An act of two: this one becomes what comes out. */
        void combine(int act, Cell right) {
            if (right.sort < 0 || (isNumber() && right.isAbsent())) {
                setEmpty(right.sort);
            } else if (!isNumber()) {
                setEmpty(sort);
            } else if (real || right.real) {
                setReal(Real.reckoned(act, asReal(), right.asReal()));
            } else {
                combineWholes(act, bits, right.bits);
            }
        }

        private void combineWholes(int act, long a, long b) {
            switch (act) {
                case Reckoner.ADD:
                    setUnless(((a ^ (a + b)) & (b ^ (a + b))) < 0, a + b);
                    break;
                case Reckoner.SUBTRACT:
                    setUnless(((a ^ b) & (a ^ (a - b))) < 0, a - b);
                    break;
                case Reckoner.MULTIPLY:
                    setUnless(isProductTooGreat(a, b), a * b);
                    break;
                case Reckoner.DIVIDE:
                case Reckoner.REMAIN:
                    divideWholes(act, a, b);
                    break;
                case Reckoner.LESSER:
                    setWhole(Math.min(a, b));
                    break;
                default:
                    setWhole(Math.max(a, b));
                    break;
            }
        }

        private void divideWholes(int act, long a, long b) {
            if (b == 0) {
                setEmpty(ZERO);
            } else if (act == Reckoner.REMAIN) {
                setWhole(b == -1 ? 0 : a % b);
            } else {
                setUnless(a == LEAST && b == -1, a / b);
            }
        }

        private static boolean isProductTooGreat(long a, long b) {
            if (a == 0 || b == 0) {
                return false;
            }
            if (b == -1) {
                return a == LEAST;
            }
            return a * b / b != a;
        }

        private void setUnless(boolean tooGreat, long value) {
            hold(tooGreat ? OVERFLOW : NUMBER, tooGreat ? 0 : value, false);
        }

        /** An act of one. */
        void apply(int act) {
            if (!isNumber()) {
                return;
            }
            if (!real) {
                applyToWhole(act);
                return;
            }
            switch (act) {
                case Reckoner.NEGATE:
                    setReal(Real.negative(bits));
                    break;
                case Reckoner.ABSOLUTE:
                    setReal(Real.size(bits));
                    break;
                case Reckoner.FLOOR:
                    setReal(Real.floor(bits));
                    break;
                case Reckoner.CEILING:
                    setReal(Real.ceiling(bits));
                    break;
                case Reckoner.ROUND:
                    setReal(Real.rounded(bits));
                    break;
                default:
                    setReal(Real.signOf(bits));
                    break;
            }
        }

        private void applyToWhole(int act) {
            if (act == Reckoner.NEGATE || (act == Reckoner.ABSOLUTE && bits < 0)) {
                setUnless(bits == LEAST, -bits);
            } else if (act == Reckoner.SIGN_OF) {
                setWhole(Long.compare(bits, 0));
            }
        }
    }

    /** A COLUMN: it does not change once it is there, so MARKS may share it. */
    static final class Column {
        final long name;
        final int series;
        final int sort;
        final long birth;
        boolean real;
        long value;
        long offset;
        int left;
        int right;
        int act;
        int reads = 1;
        int over;

        Column(long name, int series, int sort, int number, long birth) {
            this.name = name;
            this.series = series;
            this.sort = sort;
            this.birth = birth;
            this.real = sort == FLOATS || sort == DOUBLES;
            this.over = 1 << number;
        }

        boolean isPlain() {
            return sort <= DOUBLES;
        }

        boolean inOrder() {
            return sort != TRUTHS;
        }

        boolean canBeSummed() {
            return sort != CODES;
        }
    }

    /** The SERIES, COLUMNS, ARRAYS and CORRECTIONS: all that a MARK keeps. */
    static final class Store {
        final int[] segments = new int[SERIES];
        final int[] rows = new int[SERIES * SEGMENTS];
        final long[] moments = new long[SERIES * LINE];
        final Column[] columns = new Column[COLUMNS];
        int columnCount;
        final int[] kinds = new int[COLUMNS * SEGMENTS];
        final int[] lengths = new int[COLUMNS * SEGMENTS];
        final long[] places = new long[COLUMNS * SEGMENTS * PLACES];
        int corrections;
        final int[] spots = new int[CORRECTIONS];
        final long[] values = new long[CORRECTIONS];
        final long[] times = new long[CORRECTIONS];
        private final Cell right = new Cell();

        void empty() {
            Arrays.fill(segments, 0);
            columnCount = 0;
            corrections = 0;
        }

        void copyFrom(Store other) {
            System.arraycopy(other.segments, 0, segments, 0, SERIES);
            System.arraycopy(other.rows, 0, rows, 0, SERIES * SEGMENTS);
            System.arraycopy(other.moments, 0, moments, 0, SERIES * LINE);
            columnCount = other.columnCount;
            for (int i = 0; i < COLUMNS; i++) {
                columns[i] = other.columns[i];
            }
            System.arraycopy(other.kinds, 0, kinds, 0, COLUMNS * SEGMENTS);
            System.arraycopy(other.lengths, 0, lengths, 0, COLUMNS * SEGMENTS);
            System.arraycopy(other.places, 0, places, 0, COLUMNS * SEGMENTS * PLACES);
            corrections = other.corrections;
            System.arraycopy(other.spots, 0, spots, 0, CORRECTIONS);
            System.arraycopy(other.values, 0, values, 0, CORRECTIONS);
            System.arraycopy(other.times, 0, times, 0, CORRECTIONS);
        }

        boolean hasSegment(int series, int segment) {
            return isSeries(series) && segment >= 0 && segment < segments[series];
        }

        boolean hasRow(int series, int segment, int row) {
            return hasSegment(series, segment) && row >= 0 && row < rows[series * SEGMENTS + segment];
        }

        boolean hasPlace(int column, int segment) {
            Column of = columnAt(column);
            return of != null && hasSegment(of.series, segment);
        }

        boolean hasCell(int column, int segment, int row) {
            Column of = columnAt(column);
            return of != null && hasRow(of.series, segment, row);
        }

        boolean isPlain(int column) {
            Column of = columnAt(column);
            return of != null && of.isPlain();
        }

        private boolean isPlainOf(int column, int series) {
            return isPlain(column) && columns[column].series == series;
        }

        Column columnAt(int number) {
            return number >= 0 && number < columnCount ? columns[number] : null;
        }

        int columnNamed(long name) {
            for (int i = 0; i < columnCount; i++) {
                if (columns[i].name == name) {
                    return i;
                }
            }
            return -1;
        }

        int rowsOf(int series) {
            int sum = 0;
            for (int segment = 0; segment < segments[series]; segment++) {
                sum += rows[series * SEGMENTS + segment];
            }
            return sum;
        }

        /** Of a place in the line of a SERIES: 16 for each SEGMENT, used or not. */
        long momentAt(int series, int at) {
            return moments[series * LINE + at];
        }

        int addSegment(int series) {
            int segment = segments[series];
            segments[series]++;
            emptySegment(series, segment);
            return segment;
        }

        private void emptySegment(int series, int segment) {
            rows[series * SEGMENTS + segment] = 0;
            for (int i = 0; i < columnCount; i++) {
                if (columns[i].series == series) {
                    kinds[i * SEGMENTS + segment] = NOTHING;
                }
            }
        }

        int addRow(int series, int segment, long moment) {
            int at = series * SEGMENTS + segment;
            int row = rows[at];
            moments[at * ROWS + row] = moment;
            rows[at]++;
            return row;
        }

        int addColumn(Column column) {
            int number = columnCount;
            columns[number] = column;
            columnCount++;
            for (int segment = 0; segment < SEGMENTS; segment++) {
                kinds[number * SEGMENTS + segment] = NOTHING;
            }
            return number;
        }

        void newArray(int column, int segment, int kind, int length, long value) {
            int at = column * SEGMENTS + segment;
            kinds[at] = kind;
            lengths[at] = length;
            Arrays.fill(places, at * PLACES, at * PLACES + length, value);
        }

        int addCorrection(int column, int at, long v, boolean real, long known) {
            spots[corrections] = column * LINE + at;
            values[corrections] = Real.stored(columns[column].sort, v, real);
            times[corrections] = known;
            corrections++;
            return corrections;
        }

        /** What the machine would refuse in copying two ARRAYS of a COLUMN into one, 0 if nothing. */
        int refusalOfGlue(int series, int segment) {
            for (int i = 0; i < columnCount; i++) {
                if (isPlainOf(i, series) && !areNothing(i, segment)) {
                    int first = refusalOfCopy(i, segment);
                    int refusal = first != 0 ? first : refusalOfCopy(i, segment + 1);
                    if (refusal != 0) {
                        return refusal;
                    }
                }
            }
            return 0;
        }

        private boolean areNothing(int column, int segment) {
            int at = column * SEGMENTS + segment;
            return kinds[at] == NOTHING && kinds[at + 1] == NOTHING;
        }

        private int refusalOfCopy(int column, int segment) {
            int at = column * SEGMENTS + segment;
            if (kinds[at] == NOTHING) {
                return -11;
            }
            if (kinds[at] != columns[column].sort) {
                return -13;
            }
            return lengths[at] < rows[columns[column].series * SEGMENTS + segment] ? -12 : 0;
        }

        int join(int series, int segment) {
            int at = series * SEGMENTS + segment;
            int first = rows[at];
            int second = rows[at + 1];
            for (int i = 0; i < columnCount; i++) {
                if (isPlainOf(i, series)) {
                    joinArrays(i, segment, first, second);
                }
            }
            System.arraycopy(moments, (at + 1) * ROWS, moments, at * ROWS + first, second);
            rows[at] = first + second;
            joinCorrections(series, segment, first);
            for (int to = segment + 1; to + 1 < segments[series]; to++) {
                moveSegment(series, to + 1, to);
            }
            segments[series]--;
            return first + second;
        }

        private void joinArrays(int column, int segment, int first, int second) {
            if (!areNothing(column, segment)) {
                int at = column * SEGMENTS + segment;
                System.arraycopy(places, (at + 1) * PLACES, places, at * PLACES + first, second);
                lengths[at] = first + second;
            }
        }

        private void joinCorrections(int series, int segment, int first) {
            for (int i = 0; i < corrections; i++) {
                int column = spots[i] / LINE;
                int of = spots[i] % LINE / ROWS;
                int row = spots[i] % ROWS;
                if (isPlainOf(column, series) && of > segment) {
                    int moved = of == segment + 1 ? row + first : row;
                    spots[i] = column * LINE + (of - 1) * ROWS + moved;
                }
            }
        }

        private void moveSegment(int series, int from, int to) {
            int source = series * SEGMENTS + from;
            int target = series * SEGMENTS + to;
            rows[target] = rows[source];
            System.arraycopy(moments, source * ROWS, moments, target * ROWS, ROWS);
            for (int i = 0; i < columnCount; i++) {
                if (isPlainOf(i, series)) {
                    int old = i * SEGMENTS + from;
                    int at = i * SEGMENTS + to;
                    kinds[at] = kinds[old];
                    lengths[at] = lengths[old];
                    System.arraycopy(places, old * PLACES, places, at * PLACES, PLACES);
                }
            }
        }

        int thinOut(int series, int n) {
            int gone = 0;
            for (int segment = 0; segment < segments[series]; segment++) {
                int at = series * SEGMENTS + segment;
                for (int i = 0; i < columnCount; i++) {
                    if (isPlainOf(i, series) && kinds[i * SEGMENTS + segment] != NOTHING) {
                        int slot = i * SEGMENTS + segment;
                        lengths[slot] = thinned(places, slot * PLACES, Math.min(lengths[slot], rows[at]), n);
                    }
                }
                int kept = thinned(moments, at * ROWS, rows[at], n);
                gone += rows[at] - kept;
                rows[at] = kept;
            }
            thinCorrections(series, n);
            return gone;
        }

        /** Moves each n-th of a stretch together: how many there are. */
        private static int thinned(long[] all, int from, int length, int n) {
            int kept = 0;
            for (int i = 0; i < length; i += n) {
                all[from + kept] = all[from + i];
                kept++;
            }
            return kept;
        }

        private void thinCorrections(int series, int n) {
            int kept = 0;
            for (int i = 0; i < corrections; i++) {
                int row = spots[i] % ROWS;
                boolean here = isPlainOf(spots[i] / LINE, series);
                if (!here || row % n == 0) {
                    spots[kept] = here ? spots[i] - row + row / n : spots[i];
                    values[kept] = values[i];
                    times[kept] = times[i];
                    kept++;
                }
            }
            corrections = kept;
        }

        /** Reads a CELL; a FINDING comes out as its sort. */
        private void readCell(int number, int at, long known, Cell out) {
            Column column = columnAt(number);
            if (column == null || at < 0 || at >= LINE) {
                out.setEmpty(MISSING);
            } else if (column.sort == CONSTANT) {
                out.setNumber(column.value, column.real);
            } else if (column.isPlain()) {
                readPlain(number, at, known, out);
            } else {
                readSummed(number, column.left, at, known, out);
                if (column.sort == SCALED && out.isNumber()) {
                    out.setReal(Real.add(Real.multiply(out.asReal(), column.value), column.offset));
                } else if (column.sort == DERIVED && out.sort >= 0) {
                    // One spare CELL is enough: no DERIVED one can be under another, for they READ two at most.
                    readSummed(number, column.right, at, known, right);
                    out.combine(column.act, right);
                }
            }
        }

        /** What is under a COLUMN has a lower number, so this goes 16 deep at most. */
        private void readSummed(int number, int under, int at, long known, Cell out) {
            if (under >= number || !columns[under].canBeSummed()) {
                out.setEmpty(KIND);
            } else {
                readCell(under, at, known, out);
            }
        }

        private void readPlain(int number, int at, long known, Cell out) {
            Column column = columns[number];
            int best = -1;
            for (int i = 0; i < corrections; i++) {
                if (spots[i] == number * LINE + at && times[i] <= known && (best < 0 || times[i] >= times[best])) {
                    best = i;
                }
            }
            int slot = number * SEGMENTS + at / ROWS;
            if (best >= 0) {
                out.setNumber(values[best], column.real);
            } else if (kinds[slot] == NOTHING) {
                out.setEmpty(MISSING);
            } else if (kinds[slot] != column.sort) {
                out.setEmpty(OTHER);
            } else if (at % ROWS >= lengths[slot]) {
                out.setEmpty(BEYOND);
            } else {
                out.setNumber(places[slot * PLACES + at % ROWS], column.real);
            }
        }
    }

    /** THE TAPE cut into TOKENS. */
    static final class Tokens {
        static final int END = 0, BAD = 1, WORD = 2, NAME = 3, WHOLE = 4, REAL = 5, SIGN = 6;

        /** A sign with = behind it. */
        static final int OR_EQUAL = 256;

        // The numbers below are the words' places in this text.
        private static final String WORDS = "use known from to join on near let fill last line where or and not is there missing beyond other impossible unlike group all span count time sort down first give moment min max abs floor ceil round sign diff cum quant sum ksum mean var least great median slope base ";
        static final int USE = 0, KNOWN = 1, FROM = 2, TO = 3, JOIN = 4, ON = 5, NEAR = 6, LET = 7, FILL = 8,
            LAST = 9, LINE_WORD = 10, WHERE = 11, OR = 12, AND = 13, NOT = 14, IS = 15, THERE = 16,
            MISSING_WORD = 17, BEYOND_WORD = 18, OTHER_WORD = 19, IMPOSSIBLE_WORD = 20, UNLIKE = 21, GROUP = 22,
            ALL = 23, SPAN = 24, COUNT = 25, TIME = 26, SORT = 27, DOWN = 28, FIRST = 29, GIVE = 30, MOMENT = 31,
            MIN = 32, MAX = 33, ABS = 34, FLOOR = 35, CEIL = 36, ROUND = 37, SIGN_WORD = 38, DIFF = 39, CUM = 40,
            QUANT = 41, SUM = 42, KSUM = 43, MEAN = 44, VAR = 45, LEAST = 46, GREAT = 47, MEDIAN = 48, SLOPE = 49,
            BASE = 50;
        private static final String SIGNS = ";,=<>()[]+-*/%";
        private static final int LONGEST_WORD = 10, LONGEST_NAME = 6, LONGEST_WHOLE = 12, LONGEST_AHEAD = 9,
            LONGEST_BEHIND = 6;

        final int[] types = new int[TAPE + 1];
        final int[] places = new int[TAPE + 1];
        final long[] values = new long[TAPE + 1];
        int size;
        private byte[] text;
        private int length;

        static boolean isLetter(int c) {
            return c >= 'a' && c <= 'z';
        }

        private static boolean isDigit(int c) {
            return c >= '0' && c <= '9';
        }

        /** The number of the WORD that stands there, or -1. */
        static int wordAt(byte[] text, int from, int length) {
            int number = 0;
            int alike = 0;
            for (int i = 0; i < WORDS.length(); i++) {
                char c = WORDS.charAt(i);
                if (c == ' ') {
                    if (alike == length) {
                        return number;
                    }
                    number++;
                    alike = 0;
                } else if (alike >= 0 && alike < length && text[from + alike] == c) {
                    alike++;
                } else {
                    alike = -1;
                }
            }
            return -1;
        }

        void cut(byte[] tape, int tapeLength) {
            text = tape;
            length = tapeLength;
            size = 0;
            int at = 0;
            for (int turn = 0; turn < TAPE && at < length; turn++) {
                int c = text[at];
                if (c == ' ' || c == 10) {
                    at++;
                } else if (isLetter(c)) {
                    at = cutWord(at);
                } else if (isDigit(c)) {
                    at = cutNumber(at);
                } else {
                    at = cutSign(at, (char) (c & 255));
                }
            }
            add(END, length, 0);
        }

        private void add(int type, int place, long value) {
            if (size < types.length) {
                types[size] = type;
                places[size] = place;
                values[size] = value;
                size++;
            }
        }

        /** Nothing behind a TOKEN that is none will be looked at. */
        private int stopAt(int place) {
            add(BAD, place, 0);
            return length;
        }

        private int cutWord(int from) {
            int to = from;
            long packed = 0;
            while (to < length && isLetter(text[to])) {
                packed = packed << 8 | text[to];
                to++;
            }
            int letters = to - from;
            int word = letters > LONGEST_WORD ? -1 : wordAt(text, from, letters);
            if (word >= 0) {
                add(WORD, from, word);
            } else if (letters <= LONGEST_NAME) {
                add(NAME, from, packed);
            } else {
                return stopAt(from);
            }
            return to;
        }

        private int digitsEnd(int from) {
            int to = from;
            while (to < length && isDigit(text[to])) {
                to++;
            }
            return to;
        }

        private int cutNumber(int from) {
            int to = digitsEnd(from);
            // Behind more digits than a REAL may have there a point is no part of the TOKEN.
            boolean point = to - from <= LONGEST_AHEAD && to + 1 < length && text[to] == '.' && isDigit(text[to + 1]);
            if (point) {
                return cutReal(from, to);
            }
            if (to - from > LONGEST_WHOLE) {
                return stopAt(from);
            }
            add(WHOLE, from, digits(from, to, 0));
            return to;
        }

        private int cutReal(int from, int point) {
            int to = digitsEnd(point + 1);
            int behind = to - point - 1;
            if (behind > LONGEST_BEHIND) {
                return stopAt(from);
            }
            long divisor = 1;
            for (int i = 0; i < behind; i++) {
                divisor *= 10;
            }
            long all = digits(point + 1, to, digits(from, point, 0));
            add(REAL, from, Real.divide(Real.ofWhole(all), Real.ofWhole(divisor)));
            return to;
        }

        private long digits(int from, int to, long before) {
            long number = before;
            for (int i = from; i < to; i++) {
                number = number * 10 + (text[i] - '0');
            }
            return number;
        }

        private int cutSign(int at, char c) {
            if (SIGNS.indexOf(c) < 0) {
                return stopAt(at);
            }
            boolean equal = (c == '<' || c == '>') && at + 1 < length && text[at + 1] == '=';
            add(SIGN, at, equal ? c + OR_EQUAL : c);
            return equal ? at + 2 : at + 1;
        }
    }

    /** A list of parts of a QUERY, each with what stands in it and where. */
    static final class Parts {
        int size;
        final int[] hows;
        final int[] names;
        final int[] places;
        final int[] wordPlaces;
        final long[] values;
        final boolean[] reals;

        Parts(int most) {
            hows = new int[most];
            names = new int[most];
            places = new int[most];
            wordPlaces = new int[most];
            values = new long[most];
            reals = new boolean[most];
        }

        /** The number of the new part; the last one stands for all that would go beyond the list. */
        int add(int how, int name, int place) {
            int at = Math.min(size, hows.length - 1);
            hows[at] = how;
            names[at] = name;
            places[at] = place;
            wordPlaces[at] = place;
            values[at] = 0;
            reals[at] = false;
            size = at + 1;
            return at;
        }

        boolean hasName(int name) {
            for (int i = 0; i < size; i++) {
                if (names[i] == name) {
                    return true;
                }
            }
            return false;
        }
    }

    /** A QUERY as it was understood. A name is a COLUMN's number, or COLUMNS and the number of a let. */
    static final class Query {
        static final int ALONE = 0, ON = 1, NEAR = 2;
        static final int BY_ROWS = 0, SORTED = 1, BY_ALL = 2, BY_NAMES = 3, BY_COUNT = 4, BY_TIME = 5;
        static final int LAST = 0, BY_LINE = 1, BY_NUMBER = 2;
        static final int DOWN = 1, ABSENT_FIRST = 2, IMPOSSIBLE_FIRST = 4;

        int series;
        long known;
        long from;
        long to;
        int link;
        int linkPlace;
        long near;
        final Parts linked = new Parts(2);
        final Parts code = new Parts(CODE);
        final Parts lets = new Parts(LETS);
        int condition;
        final Parts fills = new Parts(FILLS);
        int shape;
        int shapePlace;
        long span;
        final Parts keys = new Parts(KEYS);
        final Parts items = new Parts(ITEMS);
        int reads;
        final long[] births = new long[COLUMNS];
        boolean summable;
        int forced;

        void reset() {
            series = 0;
            known = LIMIT;
            from = -LIMIT;
            to = LIMIT;
            link = ALONE;
            linked.size = 0;
            code.size = 0;
            lets.size = 0;
            fills.size = 0;
            shape = BY_ROWS;
            keys.size = 0;
            items.size = 0;
            reads = 0;
            summable = false;
            forced = NONE;
        }

        boolean isGrouped() {
            return shape >= BY_ALL;
        }
    }

    /** Understands THE TAPE, TOKEN by TOKEN; behind the first FAULT nothing is taken any more. */
    static final class Parser {
        private static final int OPERATORS = 30, DEPTH = 8, READ = 8, GROUP_NAMES = 2;
        private static final int CAN_NOT_STAND = 1, NO_SUCH_NAME = 2, OUT_OF_BOUNDS = 3, REAL_FOR_WHOLE = 4,
            TOO_MANY = 5;

        int fault;
        int place;
        private Tokens tokens;
        private Store store;
        private Query query;
        private int at;
        private int visible;
        private int operators;
        private int depth;
        /** The code of a NAME that stands alone, in ( ) or not, as what was taken last; else -1. */
        private int bare;
        private int lined;
        private boolean simple;

        void parse(Tokens newTokens, Store newStore, Query newQuery) {
            tokens = newTokens;
            store = newStore;
            query = newQuery;
            query.reset();
            fault = 0;
            place = 0;
            at = 0;
            operators = 0;
            depth = 0;
            lined = 0;
            simple = true;
            useClauses();
            joinClause();
            for (int turn = 0; turn <= LETS && isWord(Tokens.LET); turn++) {
                letClause();
            }
            for (int turn = 0; turn <= FILLS && isWord(Tokens.FILL); turn++) {
                fillClause();
            }
            query.condition = query.code.size;
            if (takeWord(Tokens.WHERE)) {
                condition();
                needSign(';');
                simple = false;
            }
            shapeClause();
            giveClause();
            if (type() != Tokens.END) {
                fail(CAN_NOT_STAND);
            }
            finish();
        }

        private void finish() {
            query.summable = simple && query.shape == Query.BY_ALL && query.lets.size == 0 && query.fills.size == 0;
            for (int i = 0; i < query.items.size; i++) {
                query.summable &= isKeptSum(query.items.hows[i], store.columnAt(query.items.names[i]));
            }
            for (int i = 0; i < COLUMNS; i++) {
                Column column = store.columnAt(i);
                query.births[i] = column == null ? 0 : column.birth;
            }
        }

        private static boolean isKeptSum(int how, Column column) {
            return (how == Tokens.COUNT || how == Tokens.SUM) && column != null && column.sort <= LONGS
                && column.sort != CODES;
        }

        // ---- single TOKENS

        private int type() {
            return tokens.types[at];
        }

        private long value() {
            return tokens.values[at];
        }

        private int here() {
            return tokens.places[at];
        }

        private void fail(int number) {
            if (fault == 0) {
                fault = number;
                place = here();
            }
        }

        private void step() {
            if (fault == 0 && at + 1 < tokens.size) {
                at++;
            }
        }

        private boolean isWord(int word) {
            return fault == 0 && tokens.types[at] == Tokens.WORD && tokens.values[at] == word;
        }

        private boolean isSign(int sign) {
            return fault == 0 && tokens.types[at] == Tokens.SIGN && tokens.values[at] == sign;
        }

        private boolean takeWord(int word) {
            boolean there = isWord(word);
            if (there) {
                step();
            }
            return there;
        }

        private boolean takeSign(int sign) {
            boolean there = isSign(sign);
            if (there) {
                step();
            }
            return there;
        }

        private void needWord(int word) {
            if (!takeWord(word)) {
                fail(CAN_NOT_STAND);
            }
        }

        private void needSign(int sign) {
            if (!takeSign(sign)) {
                fail(CAN_NOT_STAND);
            }
        }

        private long needWhole(boolean minus, long least, long greatest) {
            long whole = minus ? -value() : value();
            if (type() != Tokens.WHOLE) {
                fail(CAN_NOT_STAND);
            } else if (!isWithin(whole, least, greatest)) {
                fail(OUT_OF_BOUNDS);
            }
            step();
            return fault == 0 ? whole : 0;
        }

        // ---- NAMES

        /** The COLUMN or let of a NAME, or -1. */
        private int resolve(long name) {
            for (int i = 0; i < query.lets.size; i++) {
                if (query.lets.values[i] == name) {
                    return COLUMNS + i;
                }
            }
            int number = store.columnNamed(name);
            Column column = store.columnAt(number);
            return column != null && (visible >> column.series & 1) == 1 ? number : -1;
        }

        private boolean isKnownName() {
            return fault == 0 && type() == Tokens.NAME && resolve(value()) >= 0;
        }

        private int needName() {
            int name = type() == Tokens.NAME ? resolve(value()) : -1;
            if (name < 0) {
                fail(type() == Tokens.NAME ? NO_SUCH_NAME : CAN_NOT_STAND);
            }
            if (fault != 0) {
                return 0;
            }
            Column column = store.columnAt(name);
            if (column != null) {
                query.reads |= column.over;
            }
            if (Integer.bitCount(query.reads) > READ) {
                fail(TOO_MANY);
            }
            step();
            return name;
        }

        private boolean isReal(int name) {
            if ((lined >> name & 1) == 1) {
                return true;
            }
            if (name >= COLUMNS) {
                return query.lets.reals[name - COLUMNS];
            }
            Column column = store.columnAt(name);
            return column != null && column.real;
        }

        // ---- clauses

        private void useClauses() {
            needWord(Tokens.USE);
            query.series = (int) needWhole(false, 0, 1);
            needSign(';');
            visible = 1 << query.series;
            if (takeWord(Tokens.KNOWN)) {
                query.known = needWhole(false, 0, LIMIT);
                needSign(';');
                simple = false;
            }
            if (takeWord(Tokens.FROM)) {
                query.from = needWhole(takeSign('-'), -LIMIT, LIMIT);
                needWord(Tokens.TO);
                query.to = needWhole(takeSign('-'), query.from, LIMIT);
                needSign(';');
                simple = false;
            }
        }

        private void joinClause() {
            query.linkPlace = here();
            if (!takeWord(Tokens.JOIN)) {
                return;
            }
            int other = 1 - query.series;
            needWhole(false, other, other);
            if (takeWord(Tokens.ON)) {
                query.link = Query.ON;
                linkedName(query.series);
                linkedName(other);
            } else {
                needWord(Tokens.NEAR);
                query.link = Query.NEAR;
                query.near = needWhole(false, 1, LIMIT);
            }
            needSign(';');
            visible = 3;
            simple = false;
        }

        private void linkedName(int series) {
            visible = 1 << series;
            int start = here();
            query.linked.add(0, needName(), start);
        }

        private void letClause() {
            if (query.lets.size >= LETS) {
                fail(TOO_MANY);
                return;
            }
            step();
            long name = value();
            if (type() != Tokens.NAME) {
                fail(CAN_NOT_STAND);
            } else if (store.columnNamed(name) >= 0 || resolve(name) >= 0) {
                fail(NO_SUCH_NAME);
            }
            step();
            needSign('=');
            int start = query.code.size;
            boolean real = expression();
            needSign(';');
            int let = query.lets.add(start, query.code.size, 0);
            query.lets.values[let] = name;
            query.lets.reals[let] = real;
        }

        private void fillClause() {
            if (query.fills.size >= FILLS) {
                fail(TOO_MANY);
                return;
            }
            step();
            int start = here();
            int name = needName();
            int fill = query.fills.add(Query.BY_NUMBER, name, start);
            if (takeWord(Tokens.LAST)) {
                query.fills.hows[fill] = Query.LAST;
            } else if (takeWord(Tokens.LINE_WORD)) {
                query.fills.hows[fill] = Query.BY_LINE;
                lined |= 1 << name;
            } else {
                fillNumber(fill, name);
            }
            needSign(';');
        }

        private void fillNumber(int fill, int name) {
            boolean minus = takeSign('-');
            if (type() == Tokens.REAL) {
                if (!isReal(name)) {
                    fail(REAL_FOR_WHOLE);
                }
                query.fills.values[fill] = minus ? Real.negative(value()) : value();
                query.fills.reals[fill] = true;
                step();
            } else {
                query.fills.values[fill] = needWhole(minus, -LIMIT, LIMIT);
            }
        }

        private void shapeClause() {
            query.shapePlace = here();
            if (takeWord(Tokens.GROUP)) {
                groupNames();
                needSign(';');
            } else if (takeWord(Tokens.SPAN)) {
                boolean byCount = takeWord(Tokens.COUNT);
                if (!byCount) {
                    needWord(Tokens.TIME);
                }
                query.shape = byCount ? Query.BY_COUNT : Query.BY_TIME;
                query.span = needWhole(false, 1, byCount ? SPANS : LIMIT);
                needSign(';');
            } else if (takeWord(Tokens.SORT)) {
                sortKeys();
                needSign(';');
            }
        }

        private void groupNames() {
            if (takeWord(Tokens.ALL)) {
                query.shape = Query.BY_ALL;
                return;
            }
            query.shape = Query.BY_NAMES;
            boolean more = true;
            for (int turn = 0; turn <= GROUP_NAMES && more; turn++) {
                keyName(turn >= GROUP_NAMES);
                more = takeSign(',');
            }
        }

        private void sortKeys() {
            query.shape = Query.SORTED;
            boolean more = true;
            for (int turn = 0; turn <= KEYS && more; turn++) {
                int key = keyName(turn >= KEYS);
                int how = takeWord(Tokens.DOWN) ? Query.DOWN : 0;
                how |= takeFirst(Tokens.MISSING_WORD) ? Query.ABSENT_FIRST : 0;
                how |= takeFirst(Tokens.IMPOSSIBLE_WORD) ? Query.IMPOSSIBLE_FIRST : 0;
                query.keys.hows[key] = how;
                more = takeSign(',');
            }
        }

        private boolean takeFirst(int word) {
            boolean there = takeWord(word);
            if (there) {
                needWord(Tokens.FIRST);
            }
            return there;
        }

        private int keyName(boolean isOneTooMany) {
            if (isOneTooMany && isKnownName()) {
                fail(TOO_MANY);
            }
            int start = here();
            return query.keys.add(0, needName(), start);
        }

        private void giveClause() {
            needWord(Tokens.GIVE);
            boolean more = true;
            for (int turn = 0; turn <= ITEMS && more; turn++) {
                item(turn >= ITEMS);
                more = takeSign(',');
            }
            needSign(';');
        }

        private void item(boolean isOneTooMany) {
            int start = here();
            int word = type() == Tokens.WORD ? (int) value() : -1;
            if (type() == Tokens.NAME) {
                if (!isKnownName() || !mayStandAlone(resolve(value()))) {
                    fail(NO_SUCH_NAME);
                }
            } else if (!isItemWord(word)) {
                fail(CAN_NOT_STAND);
            }
            if (isOneTooMany) {
                fail(TOO_MANY);
            }
            if (word < 0) {
                int name = needName();
                int item = query.items.add(Giver.NAME_ALONE, name, start);
                query.items.reals[item] = isReal(name);
            } else {
                step();
                wordItem(word, start);
            }
        }

        private boolean mayStandAlone(int name) {
            return !query.isGrouped() || (query.shape == Query.BY_NAMES && query.keys.hasName(name));
        }

        private boolean isItemWord(int word) {
            switch (word) {
                case Tokens.MOMENT:
                    return true;
                case Tokens.DIFF:
                case Tokens.CUM:
                    return !query.isGrouped();
                case Tokens.COUNT:
                case Tokens.MISSING_WORD:
                case Tokens.BEYOND_WORD:
                case Tokens.OTHER_WORD:
                case Tokens.IMPOSSIBLE_WORD:
                case Tokens.FIRST:
                case Tokens.LAST:
                    return query.isGrouped();
                default:
                    return query.isGrouped() && isWithin(word, Tokens.QUANT, Tokens.BASE);
            }
        }

        private void wordItem(int word, int start) {
            if (word == Tokens.MOMENT) {
                query.items.add(word, COLUMNS, start);
                return;
            }
            long share = word == Tokens.QUANT ? needWhole(false, 0, 100) : 0;
            int namePlace = here();
            int name = needName();
            int item = query.items.add(word, name, namePlace);
            query.items.wordPlaces[item] = start;
            query.items.values[item] = share;
            query.items.reals[item] = isItemReal(word, name);
        }

        private boolean isItemReal(int word, int name) {
            switch (word) {
                case Tokens.COUNT:
                case Tokens.MISSING_WORD:
                case Tokens.BEYOND_WORD:
                case Tokens.OTHER_WORD:
                case Tokens.IMPOSSIBLE_WORD:
                    return false;
                case Tokens.KSUM:
                case Tokens.MEAN:
                case Tokens.VAR:
                case Tokens.MEDIAN:
                case Tokens.SLOPE:
                case Tokens.BASE:
                    return true;
                default:
                    return isReal(name);
            }
        }

        // ---- EXP and COND: each answers whether what it took is REAL; a FAULT ends all going deeper

        private void takeOperator() {
            if (operators >= OPERATORS) {
                fail(TOO_MANY);
            }
            operators++;
            step();
        }

        private void deepen() {
            if (depth >= DEPTH) {
                fail(TOO_MANY);
            }
            depth++;
        }

        private void wantSummed(int code) {
            Column column = code < 0 ? null : store.columnAt(query.code.names[code]);
            if (column != null && !column.canBeSummed()) {
                query.code.hows[code] = Reckoner.REFUSE;
            }
        }

        private void wantOrder(int code) {
            Column column = code < 0 ? null : store.columnAt(query.code.names[code]);
            if (column != null && !column.inOrder()) {
                query.code.hows[code] = Reckoner.REFUSE;
            }
        }

        private void addAct(int act, int start) {
            query.code.add(act, 0, start);
            bare = -1;
        }

        private boolean expression() {
            boolean real = term();
            for (int turn = 0; turn < TAPE && (isSign('+') || isSign('-')); turn++) {
                int act = isSign('+') ? Reckoner.ADD : Reckoner.SUBTRACT;
                int start = here();
                wantSummed(bare);
                takeOperator();
                real = term() || real;
                wantSummed(bare);
                addAct(act, start);
            }
            return real;
        }

        private boolean term() {
            boolean real = one();
            for (int turn = 0; turn < TAPE && (isSign('*') || isSign('/') || isSign('%')); turn++) {
                int act = isSign('*') ? Reckoner.MULTIPLY : isSign('/') ? Reckoner.DIVIDE : Reckoner.REMAIN;
                int start = here();
                wantSummed(bare);
                takeOperator();
                real = one() || real;
                wantSummed(bare);
                addAct(act, start);
            }
            return real;
        }

        private boolean one() {
            bare = -1;
            if (fault != 0) {
                return false;
            }
            if (type() == Tokens.NAME) {
                int start = here();
                int name = needName();
                bare = query.code.add(Reckoner.FETCH, name, start);
                return isReal(name);
            }
            if (type() == Tokens.WHOLE || type() == Tokens.REAL) {
                return literal();
            }
            if (type() == Tokens.WORD) {
                return function((int) value());
            }
            return isSign('-') ? negated() : bracketed();
        }

        private boolean literal() {
            boolean real = type() == Tokens.REAL;
            int code = query.code.add(Reckoner.LITERAL, 0, here());
            query.code.values[code] = value();
            query.code.reals[code] = real;
            step();
            return real;
        }

        private boolean negated() {
            int start = here();
            deepen();
            takeOperator();
            boolean real = one();
            depth--;
            wantSummed(bare);
            addAct(Reckoner.NEGATE, start);
            return real;
        }

        private void open() {
            if (!isSign('(')) {
                fail(CAN_NOT_STAND);
            }
            deepen();
            step();
        }

        private boolean bracketed() {
            open();
            boolean real = expression();
            needSign(')');
            depth--;
            return real;
        }

        private boolean function(int word) {
            int start = here();
            if (word == Tokens.MOMENT) {
                step();
                addAct(Reckoner.ROW_MOMENT, start);
                return false;
            }
            if (word == Tokens.MIN || word == Tokens.MAX) {
                takeOperator();
                return ofTwo(word == Tokens.MIN ? Reckoner.LESSER : Reckoner.GREATER, start);
            }
            if (!isWithin(word, Tokens.ABS, Tokens.SIGN_WORD)) {
                fail(CAN_NOT_STAND);
                return false;
            }
            takeOperator();
            boolean real = bracketed();
            wantSummed(bare);
            // The functions' words and acts stand in one order.
            addAct(word - Tokens.ABS + Reckoner.ABSOLUTE, start);
            return real;
        }

        private boolean ofTwo(int act, int start) {
            open();
            boolean real = expression();
            wantSummed(bare);
            needSign(',');
            real = expression() || real;
            wantSummed(bare);
            needSign(')');
            depth--;
            addAct(act, start);
            return real;
        }

        private void condition() {
            both();
            for (int turn = 0; turn < TAPE && isWord(Tokens.OR); turn++) {
                int skip = addSkip(Reckoner.SKIP_IF_SO);
                both();
                query.code.names[skip] = query.code.size;
            }
        }

        private void both() {
            test();
            for (int turn = 0; turn < TAPE && isWord(Tokens.AND); turn++) {
                int skip = addSkip(Reckoner.SKIP_UNLESS_SO);
                test();
                query.code.names[skip] = query.code.size;
            }
        }

        private int addSkip(int act) {
            int skip = query.code.add(act, 0, here());
            takeOperator();
            return skip;
        }

        private void test() {
            int start = here();
            if (fault != 0) {
                return;
            }
            if (isWord(Tokens.NOT)) {
                deepen();
                takeOperator();
                test();
                depth--;
                addAct(Reckoner.TURN, start);
            } else if (isSign('[')) {
                deepen();
                step();
                condition();
                needSign(']');
                depth--;
            } else if (isNameWithIs()) {
                sortTest();
            } else {
                expression();
                int left = bare;
                int place = here();
                int how = takeRelation();
                expression();
                if (how != Reckoner.ALIKE && how != Reckoner.UNLIKE) {
                    wantOrder(left);
                    wantOrder(bare);
                }
                addAct(how, place);
            }
        }

        private boolean isNameWithIs() {
            return type() == Tokens.NAME && at + 1 < tokens.size && tokens.types[at + 1] == Tokens.WORD
                && tokens.values[at + 1] == Tokens.IS;
        }

        private void sortTest() {
            int start = here();
            int name = needName();
            takeOperator();
            int wanted = type() == Tokens.WORD ? (int) value() - Tokens.THERE : -1;
            // These words stand in the order of the sorts, there being a NUMBER.
            if (!isWithin(wanted, NUMBER, IMPOSSIBLE)) {
                fail(CAN_NOT_STAND);
            }
            step();
            int code = query.code.add(Reckoner.SORT_TEST, name, start);
            query.code.values[code] = wanted;
        }

        private int takeRelation() {
            int how = relationHere();
            if (how < 0) {
                fail(CAN_NOT_STAND);
            }
            takeOperator();
            return how;
        }

        private int relationHere() {
            if (isWord(Tokens.UNLIKE)) {
                return Reckoner.UNLIKE;
            }
            if (type() != Tokens.SIGN) {
                return -1;
            }
            switch ((int) value()) {
                case '=':
                    return Reckoner.ALIKE;
                case '<':
                    return Reckoner.BELOW;
                case '>':
                    return Reckoner.ABOVE;
                case '<' + Tokens.OR_EQUAL:
                    return Reckoner.NOT_ABOVE;
                case '>' + Tokens.OR_EQUAL:
                    return Reckoner.NOT_BELOW;
                default:
                    return -1;
            }
        }
    }

    /** The ROWS of a RUN and what their NAMES hold. */
    static final class Table {
        private static final int SLOTS = LETS + FILLS;

        Store store;
        Query query;
        int finding;
        int place = NONE;
        /** The ROWS of each SERIES by MOMENTS, as places in its line. */
        private final int[] lines = new int[SERIES * LINE];
        private final int[] lineSizes = new int[SERIES];
        private final int[] columnSorts = new int[COLUMNS * LINE];
        private final long[] columnBits = new long[COLUMNS * LINE];
        private final int[] used = new int[JOINED];
        private final int[] other = new int[JOINED];
        final int[] live = new int[JOINED];
        int liveSize;
        /** Where the lets and the filled COLUMNS are held, ROW by ROW; else -1. */
        private final int[] slotOf = new int[COLUMNS + LETS];
        private final int[] slotSorts = new int[SLOTS * JOINED];
        private final long[] slotBits = new long[SLOTS * JOINED];
        private final boolean[] slotReals = new boolean[SLOTS];
        private int slots;
        private final Reckoner reckoner = new Reckoner();
        final Cell mine = new Cell();
        private final Cell theirs = new Cell();

        void forget() {
            finding = 0;
            place = NONE;
        }

        /** Ends the RUN at a TOKEN; the first one that is met counts. */
        void fail(int sort, int where) {
            if (finding == 0) {
                finding = -sort;
                place = where;
            }
        }

        void begin(Store newStore, Query newQuery) {
            store = newStore;
            query = newQuery;
            forget();
            for (int series = 0; series < SERIES; series++) {
                orderRows(series);
            }
            Arrays.fill(slotOf, -1);
            for (int i = 0; i < LETS; i++) {
                slotOf[COLUMNS + i] = i;
                slotReals[i] = query.lets.reals[i];
            }
            slots = LETS;
            liveSize = 0;
            for (int i = 0; i < lineSizes[query.series]; i++) {
                int at = lines[query.series * LINE + i];
                if (isWithin(store.momentAt(query.series, at), query.from, query.to)) {
                    live[liveSize] = at;
                    liveSize++;
                }
            }
        }

        private void orderRows(int series) {
            lineSizes[series] = 0;
            for (int segment = 0; segment < store.segments[series]; segment++) {
                for (int row = 0; row < store.rows[series * SEGMENTS + segment]; row++) {
                    insertRow(series, segment * ROWS + row);
                }
            }
        }

        private void insertRow(int series, int at) {
            long moment = store.momentAt(series, at);
            int from = series * LINE;
            int size = lineSizes[series];
            int low = 0;
            int high = size;
            for (int turn = 0; turn < LINE && low < high; turn++) {
                int middle = (low + high) / 2;
                if (store.momentAt(series, lines[from + middle]) <= moment) {
                    low = middle + 1;
                } else {
                    high = middle;
                }
            }
            System.arraycopy(lines, from + low, lines, from + low + 1, size - low);
            lines[from + low] = at;
            lineSizes[series]++;
        }

        /** FINDINGS are kept like other sorts here: they count only once they are met. */
        void loadColumns() {
            for (int i = 0; i < LINE * COLUMNS; i++) {
                int number = i / LINE;
                Column column = (query.reads >> number & 1) == 1 ? store.columnAt(number) : null;
                if (column != null && i % LINE < lineSizes[column.series]) {
                    int at = lines[column.series * LINE + i % LINE];
                    store.readCell(number, at, query.known, mine);
                    columnSorts[number * LINE + at] = mine.sort;
                    columnBits[number * LINE + at] = mine.bits;
                }
            }
        }

        private void loadFrom(int column, int at, Cell out) {
            int cell = column * LINE + at;
            out.hold(columnSorts[cell], columnBits[cell], store.columns[column].real);
        }

        // ---- join

        void joinRows() {
            int size = 0;
            for (int i = 0; i < liveSize && finding == 0; i++) {
                if (query.link == Query.ON) {
                    size = joinAlike(live[i], size);
                } else {
                    used[i] = live[i];
                    other[i] = query.link == Query.NEAR ? nearest(live[i]) : -1;
                    size = i + 1;
                }
            }
            liveSize = size;
            for (int i = 0; i < liveSize; i++) {
                live[i] = i;
            }
        }

        /** Joins a ROW with all that are alike: how many joined ones there are then. */
        private int joinAlike(int row, int before) {
            loadFrom(query.linked.names[0], row, mine);
            if (mine.sort < 0) {
                fail(mine.sort, query.linked.places[0]);
            }
            int size = before;
            int series = 1 - query.series;
            int others = mine.sort == NUMBER ? lineSizes[series] : 0;
            for (int i = 0; i < others && finding == 0; i++) {
                int at = lines[series * LINE + i];
                loadFrom(query.linked.names[1], at, theirs);
                if (theirs.sort < 0) {
                    fail(theirs.sort, query.linked.places[1]);
                } else if (theirs.sort == NUMBER && mine.compareWith(theirs) == 0) {
                    if (size >= JOINED) {
                        fail(FULL, query.linkPlace);
                    } else {
                        used[size] = row;
                        other[size] = at;
                        size++;
                    }
                }
            }
            return size;
        }

        /** The other SERIES is ordered by MOMENTS, then as it ARRIVED: the last one not above is the one. */
        private int nearest(int row) {
            int series = 1 - query.series;
            long moment = store.momentAt(query.series, row);
            int best = -1;
            for (int i = 0; i < lineSizes[series]; i++) {
                int at = lines[series * LINE + i];
                if (store.momentAt(series, at) <= moment) {
                    best = at;
                }
            }
            return best >= 0 && moment - store.momentAt(series, best) <= query.near ? best : -1;
        }

        // ---- what NAMES hold

        long momentOf(int row) {
            return store.momentAt(query.series, used[row]);
        }

        void fetch(int name, int row, Cell out) {
            int slot = slotOf[name];
            if (slot >= 0) {
                int cell = slot * JOINED + row;
                out.hold(slotSorts[cell], slotBits[cell], slotReals[slot]);
                return;
            }
            int at = store.columns[name].series == query.series ? used[row] : other[row];
            if (at < 0) {
                out.setEmpty(MISSING);
            } else {
                loadFrom(name, at, out);
            }
        }

        /** As fetch, but a FINDING ends the RUN at the NAME that stands there. */
        void readName(int name, int row, int where, Cell out) {
            fetch(name, row, out);
            if (out.sort < 0) {
                fail(out.sort, where);
            }
        }

        boolean isReal(int name) {
            return slotOf[name] >= 0 ? slotReals[slotOf[name]] : store.columns[name].real;
        }

        boolean inOrder(int name) {
            return name >= COLUMNS || store.columns[name].inOrder();
        }

        boolean canBeSummed(int name) {
            return name >= COLUMNS || store.columns[name].canBeSummed();
        }

        private void keep(int slot, int row, Cell from) {
            slotSorts[slot * JOINED + row] = from.sort;
            slotBits[slot * JOINED + row] = from.bits;
        }

        // ---- let, fill, where: all ROWS are still there at the first two, numbered as they come

        void workLets() {
            for (int let = 0; let < query.lets.size; let++) {
                for (int row = 0; row < liveSize && finding == 0; row++) {
                    keep(let, row, reckoner.reckon(this, query.lets.hows[let], query.lets.names[let], row));
                }
            }
        }

        void workFills() {
            for (int fill = 0; fill < query.fills.size && finding == 0; fill++) {
                int slot = openSlot(query.fills.names[fill], query.fills.places[fill]);
                if (finding == 0 && query.fills.hows[fill] == Query.LAST) {
                    fillLast(slot);
                } else if (finding == 0 && query.fills.hows[fill] == Query.BY_LINE) {
                    fillLine(slot);
                } else if (finding == 0) {
                    fillNumber(slot, query.fills.values[fill], query.fills.reals[fill]);
                }
            }
        }

        /** A place for the CELLS of a NAME, from the first time on that it is filled. */
        private int openSlot(int name, int where) {
            if (slotOf[name] >= 0) {
                return slotOf[name];
            }
            int slot = slots;
            slots++;
            for (int row = 0; row < liveSize && finding == 0; row++) {
                readName(name, row, where, mine);
                keep(slot, row, mine);
            }
            slotReals[slot] = store.columns[name].real;
            slotOf[name] = slot;
            return slot;
        }

        private boolean isGap(int slot, int row) {
            int sort = slotSorts[slot * JOINED + row];
            return sort != NUMBER && sort != IMPOSSIBLE;
        }

        private boolean isNumber(int slot, int row) {
            return slotSorts[slot * JOINED + row] == NUMBER;
        }

        private void fillLast(int slot) {
            int ahead = -1;
            for (int row = 0; row < liveSize; row++) {
                if (isNumber(slot, row)) {
                    ahead = row;
                } else if (isGap(slot, row) && ahead >= 0) {
                    mine.hold(NUMBER, slotBits[slot * JOINED + ahead], slotReals[slot]);
                    keep(slot, row, mine);
                }
            }
        }

        private void fillNumber(int slot, long value, boolean real) {
            mine.setNumber(slotReals[slot] && !real ? Real.ofWhole(value) : value, slotReals[slot]);
            for (int row = 0; row < liveSize; row++) {
                if (isGap(slot, row)) {
                    keep(slot, row, mine);
                }
            }
        }

        private void fillLine(int slot) {
            makeReal(slot);
            int ahead = -1;
            int behind = 0;
            for (int row = 0; row < liveSize; row++) {
                if (isNumber(slot, row)) {
                    ahead = row;
                } else if (isGap(slot, row) && ahead >= 0) {
                    behind = behind > row ? behind : nextNumber(slot, row);
                    if (behind < liveSize) {
                        mine.setReal(between(slot, ahead, behind, row));
                        keep(slot, row, mine);
                        // What was filled is no NUMBER to go by: ahead stays where it is.
                    }
                }
            }
        }

        private int nextNumber(int slot, int from) {
            int row = from + 1;
            while (row < liveSize && !isNumber(slot, row)) {
                row++;
            }
            return row;
        }

        private void makeReal(int slot) {
            for (int row = 0; row < liveSize && !slotReals[slot]; row++) {
                if (isNumber(slot, row)) {
                    slotBits[slot * JOINED + row] = Real.ofWhole(slotBits[slot * JOINED + row]);
                }
            }
            slotReals[slot] = true;
        }

        private long between(int slot, int ahead, int behind, int row) {
            long v = slotBits[slot * JOINED + ahead];
            long w = slotBits[slot * JOINED + behind];
            long m = Real.ofWhole(momentOf(ahead));
            long n = Real.ofWhole(momentOf(behind));
            if (m == n) {
                return v;
            }
            long since = Real.add(Real.ofWhole(momentOf(row)), Real.negative(m));
            long share = Real.divide(since, Real.add(n, Real.negative(m)));
            return Real.add(v, Real.multiply(Real.add(w, Real.negative(v)), share));
        }

        void filterRows() {
            int from = query.condition;
            int to = query.code.size;
            if (from == to) {
                return;
            }
            int kept = 0;
            for (int i = 0; i < liveSize && finding == 0; i++) {
                reckoner.reckon(this, from, to, live[i]);
                if (reckoner.so) {
                    live[kept] = live[i];
                    kept++;
                }
            }
            liveSize = kept;
        }
    }

    /** Works the code of an EXP or a COND for one ROW. */
    static final class Reckoner {
        static final int ADD = 0, SUBTRACT = 1, MULTIPLY = 2, DIVIDE = 3, REMAIN = 4, LESSER = 5, GREATER = 6;
        static final int NEGATE = 7, ABSOLUTE = 8, FLOOR = 9, CEILING = 10, ROUND = 11, SIGN_OF = 12;
        static final int LITERAL = 13, ROW_MOMENT = 14, FETCH = 15, REFUSE = 16;
        static final int ALIKE = 17, BELOW = 18, NOT_ABOVE = 19, ABOVE = 20, NOT_BELOW = 21, UNLIKE = 22;
        static final int SORT_TEST = 23, TURN = 24, SKIP_IF_SO = 25, SKIP_UNLESS_SO = 26;

        /** Whether the COND that was worked last is so. */
        boolean so;
        private final Cell[] stack = new Cell[CODE];
        private int top;

        Reckoner() {
            for (int i = 0; i < CODE; i++) {
                stack[i] = new Cell();
            }
        }

        /** What the EXP comes to; FINDINGS are told to the table. */
        Cell reckon(Table table, int from, int to, int row) {
            Parts code = table.query.code;
            top = 0;
            int at = from;
            for (int turn = 0; turn < CODE && at < to && table.finding == 0; turn++) {
                int act = code.hows[at];
                int next = at + 1;
                if (act <= GREATER) {
                    if (top >= 2) {
                        top--;
                        stack[top - 1].combine(act, stack[top]);
                    }
                } else if (act <= SIGN_OF) {
                    if (top >= 1) {
                        stack[top - 1].apply(act);
                    }
                } else if (act <= REFUSE) {
                    push(table, code, at, row);
                } else if (act <= UNLIKE) {
                    relate(act);
                } else {
                    next = decide(table, code, at, row);
                }
                if (top > 0 && stack[top - 1].sort < 0) {
                    table.fail(stack[top - 1].sort, code.places[at]);
                }
                at = next;
            }
            return stack[0];
        }

        private void push(Table table, Parts code, int at, int row) {
            if (top >= CODE) {
                return;
            }
            Cell cell = stack[top];
            top++;
            switch (code.hows[at]) {
                case LITERAL:
                    cell.setNumber(code.values[at], code.reals[at]);
                    break;
                case ROW_MOMENT:
                    cell.setWhole(table.momentOf(row));
                    break;
                case FETCH:
                    table.fetch(code.names[at], row, cell);
                    break;
                default:
                    cell.setEmpty(KIND);
                    break;
            }
        }

        private void relate(int act) {
            if (top < 2) {
                return;
            }
            top -= 2;
            Cell left = stack[top];
            Cell right = stack[top + 1];
            if (!left.isNumber() || !right.isNumber()) {
                so = false;
            } else if (left.sort == IMPOSSIBLE || right.sort == IMPOSSIBLE) {
                so = act == UNLIKE;
            } else {
                so = isSo(act, left.compareWith(right));
            }
        }

        private static boolean isSo(int act, int order) {
            switch (act) {
                case ALIKE:
                    return order == 0;
                case BELOW:
                    return order < 0;
                case NOT_ABOVE:
                    return order <= 0;
                case ABOVE:
                    return order > 0;
                case NOT_BELOW:
                    return order >= 0;
                default:
                    return order != 0;
            }
        }

        /** Where to go on. */
        private int decide(Table table, Parts code, int at, int row) {
            switch (code.hows[at]) {
                case SORT_TEST:
                    table.readName(code.names[at], row, code.places[at], stack[0]);
                    so = stack[0].sort == code.values[at];
                    return at + 1;
                case TURN:
                    so = !so;
                    return at + 1;
                case SKIP_IF_SO:
                    return so ? code.names[at] : at + 1;
                default:
                    return so ? at + 1 : code.names[at];
            }
        }
    }

    /** The ROWS of a RUN put in order, or parted into groups. */
    static final class Groups {
        int size;
        /** The ROWS, group by group, and where each group begins among them. */
        final int[] members = new int[JOINED];
        final int[] starts = new int[JOINED + 1];
        private final int[] groupOf = new int[JOINED];
        private final int[] firsts = new int[JOINED];
        private final int[] keySorts = new int[KEYS * JOINED];
        private final long[] keyBits = new long[KEYS * JOINED];
        private final Cell cell = new Cell();

        void form(Table table) {
            size = 0;
            if (table.finding != 0) {
                return;
            }
            switch (table.query.shape) {
                case Query.SORTED:
                    sortRows(table);
                    break;
                case Query.BY_ALL:
                    size = 1;
                    Arrays.fill(groupOf, 0);
                    break;
                case Query.BY_NAMES:
                    groupByNames(table);
                    break;
                case Query.BY_COUNT:
                    spanByCount(table);
                    break;
                case Query.BY_TIME:
                    spanByTime(table);
                    break;
                default:
                    break;
            }
            settle(table);
        }

        /** Puts the ROWS of each group together, in their order. */
        private void settle(Table table) {
            Arrays.fill(starts, 0);
            if (table.finding != 0 || size == 0) {
                return;
            }
            for (int i = 0; i < table.liveSize; i++) {
                starts[groupOf[i] + 1]++;
            }
            for (int i = 0; i < size; i++) {
                starts[i + 1] += starts[i];
                firsts[i] = starts[i];
            }
            for (int i = 0; i < table.liveSize; i++) {
                int group = groupOf[i];
                members[firsts[group]] = table.live[i];
                firsts[group]++;
            }
        }

        private void loadKeys(Table table, int row) {
            Parts keys = table.query.keys;
            for (int key = 0; key < keys.size && table.finding == 0; key++) {
                table.readName(keys.names[key], row, keys.places[key], cell);
                keySorts[key * JOINED + row] = cell.sort;
                keyBits[key * JOINED + row] = cell.bits;
            }
        }

        private void groupByNames(Table table) {
            for (int i = 0; i < table.liveSize && table.finding == 0; i++) {
                int row = table.live[i];
                loadKeys(table, row);
                int group = 0;
                while (group < size && compareKeys(table, firsts[group], row) != 0) {
                    group++;
                }
                if (group == size) {
                    firsts[size] = row;
                    size++;
                }
                groupOf[i] = group;
            }
        }

        private void spanByCount(Table table) {
            int span = (int) table.query.span;
            if (span <= 0) {
                return;
            }
            size = (table.liveSize + span - 1) / span;
            if (size > SPANS) {
                table.fail(FULL, table.query.shapePlace);
                return;
            }
            for (int i = 0; i < table.liveSize; i++) {
                groupOf[i] = i / span;
            }
        }

        private void spanByTime(Table table) {
            long span = table.query.span;
            if (table.liveSize == 0 || span <= 0) {
                return;
            }
            long first = table.momentOf(table.live[0]);
            long spans = (table.momentOf(table.live[table.liveSize - 1]) - first) / span + 1;
            if (spans > SPANS) {
                table.fail(FULL, table.query.shapePlace);
                return;
            }
            size = (int) spans;
            for (int i = 0; i < table.liveSize; i++) {
                groupOf[i] = (int) ((table.momentOf(table.live[i]) - first) / span);
            }
        }

        private void sortRows(Table table) {
            Parts keys = table.query.keys;
            for (int key = 0; key < keys.size; key++) {
                if (!table.inOrder(keys.names[key])) {
                    table.fail(KIND, keys.places[key]);
                }
            }
            for (int i = 0; i < table.liveSize && table.finding == 0; i++) {
                loadKeys(table, table.live[i]);
            }
            for (int i = 1; i < table.liveSize && table.finding == 0; i++) {
                insertRow(table, i);
            }
        }

        private void insertRow(Table table, int i) {
            int[] live = table.live;
            int row = live[i];
            int low = 0;
            int high = i;
            for (int turn = 0; turn < JOINED && low < high; turn++) {
                int middle = (low + high) / 2;
                if (compareKeys(table, live[middle], row) <= 0) {
                    low = middle + 1;
                } else {
                    high = middle;
                }
            }
            System.arraycopy(live, low, live, low + 1, i - low);
            live[low] = row;
        }

        private int compareKeys(Table table, int a, int b) {
            Parts keys = table.query.keys;
            int order = 0;
            for (int key = 0; key < keys.size && order == 0; key++) {
                int from = key * JOINED;
                int how = keys.hows[key];
                order = Integer.compare(rank(keySorts[from + a], how), rank(keySorts[from + b], how));
                if (order == 0 && keySorts[from + a] == NUMBER) {
                    order = table.isReal(keys.names[key]) ? Real.compare(keyBits[from + a], keyBits[from + b])
                        : Long.compare(keyBits[from + a], keyBits[from + b]);
                    order = (how & Query.DOWN) != 0 ? -order : order;
                }
            }
            return order;
        }

        private static int rank(int sort, int how) {
            if (sort == NUMBER) {
                return 2;
            }
            if (sort == IMPOSSIBLE) {
                return (how & Query.IMPOSSIBLE_FIRST) != 0 ? 1 : 3;
            }
            return (how & Query.ABSENT_FIRST) != 0 ? 0 : 4;
        }
    }

    /** Makes the RESULT, and keeps it. */
    static final class Giver {
        static final int NAME_ALONE = -1;

        int rows;
        int items;
        final boolean[] reals = new boolean[ITEMS];
        final int[] sorts = new int[ITEMS * JOINED];
        final long[] bits = new long[ITEMS * JOINED];
        private final Cell out = new Cell();
        private final Cell ahead = new Cell();
        private final Cell[] totals = new Cell[ITEMS];
        /** The NUMBERS of a group, their MOMENTS since its first ROW, and how many CELLS there are of each sort. */
        private final long[] numbers = new long[JOINED];
        private final long[] times = new long[JOINED];
        private int size;
        private boolean real;
        private final int[] counts = new int[IMPOSSIBLE + 1];

        Giver() {
            for (int i = 0; i < ITEMS; i++) {
                totals[i] = new Cell();
            }
        }

        void forget() {
            rows = 0;
            items = 0;
        }

        boolean hasCell(int i, int j) {
            return i >= 0 && i < rows && j >= 0 && j < items;
        }

        /** What the ITEMS want of their NAMES is asked ahead of all reading. */
        void ask(Table table) {
            Parts parts = table.query.items;
            items = parts.size;
            for (int j = 0; j < items; j++) {
                reals[j] = parts.reals[j];
                totals[j].hold(NUMBER, 0, reals[j]);
                int how = parts.hows[j];
                boolean refused = wantsSummed(how) && !table.canBeSummed(parts.names[j]);
                refused |= wantsOrder(how) && !table.inOrder(parts.names[j]);
                if (refused) {
                    table.fail(KIND, parts.places[j]);
                }
            }
        }

        private static boolean wantsSummed(int how) {
            switch (how) {
                case Tokens.DIFF:
                case Tokens.CUM:
                case Tokens.SUM:
                case Tokens.KSUM:
                case Tokens.MEAN:
                case Tokens.VAR:
                case Tokens.SLOPE:
                case Tokens.BASE:
                    return true;
                default:
                    return false;
            }
        }

        private static boolean wantsOrder(int how) {
            return how == Tokens.LEAST || how == Tokens.GREAT || how == Tokens.MEDIAN || how == Tokens.QUANT;
        }

        private void keep(int j) {
            sorts[rows * items + j] = out.sort;
            bits[rows * items + j] = out.bits;
        }

        // ---- ROW by ROW

        void giveRows(Table table) {
            for (int i = 0; i < table.liveSize && table.finding == 0; i++) {
                for (int j = 0; j < items && table.finding == 0; j++) {
                    giveItem(table, i, j);
                    keep(j);
                }
                rows++;
            }
        }

        private void giveItem(Table table, int i, int j) {
            Parts parts = table.query.items;
            int how = parts.hows[j];
            if (how == Tokens.MOMENT) {
                out.setWhole(table.momentOf(table.live[i]));
                return;
            }
            table.readName(parts.names[j], table.live[i], parts.places[j], out);
            if (how == Tokens.DIFF && i == 0) {
                out.setEmpty(MISSING);
            } else if (how == Tokens.DIFF) {
                table.fetch(parts.names[j], table.live[i - 1], ahead);
                out.combine(Reckoner.SUBTRACT, ahead);
            } else if (how == Tokens.CUM && out.isAbsent()) {
                totals[j].hold(NUMBER, 0, reals[j]);
            } else if (how == Tokens.CUM && out.isNumber()) {
                totals[j].combine(Reckoner.ADD, out);
                out.hold(totals[j].sort, totals[j].bits, totals[j].real);
            }
            if (out.sort < 0) {
                table.fail(out.sort, parts.wordPlaces[j]);
            }
        }

        // ---- group by group

        void giveGroups(Table table, Groups groups) {
            for (int group = 0; group < groups.size && table.finding == 0; group++) {
                for (int j = 0; j < items && table.finding == 0; j++) {
                    giveOfGroup(table, groups, group, j);
                    keep(j);
                }
                rows++;
            }
        }

        private void giveOfGroup(Table table, Groups groups, int group, int j) {
            Parts parts = table.query.items;
            int how = parts.hows[j];
            int from = groups.starts[group];
            int to = groups.starts[group + 1];
            if (how == Tokens.MOMENT) {
                giveMoment(table, groups, group);
            } else if (how == NAME_ALONE) {
                table.readName(parts.names[j], groups.members[from], parts.places[j], out);
            } else {
                collect(table, groups, parts.names[j], from, to, parts.places[j]);
                if (wantsOrder(how)) {
                    sortNumbers();
                }
                if (isReckonedByReals(how) || (how == Tokens.SUM && real)) {
                    reckonReals(how);
                } else {
                    summarise(how, (int) parts.values[j]);
                }
                if (out.sort < 0) {
                    table.fail(out.sort, parts.wordPlaces[j]);
                }
            }
        }

        private void giveMoment(Table table, Groups groups, int group) {
            int from = groups.starts[group];
            if (table.query.shape == Query.BY_TIME) {
                out.setWhole(table.momentOf(table.live[0]) + group * table.query.span);
            } else if (from == groups.starts[group + 1]) {
                out.setEmpty(MISSING);
            } else {
                out.setWhole(table.momentOf(groups.members[from]));
            }
        }

        private void collect(Table table, Groups groups, int name, int from, int to, int where) {
            size = 0;
            real = table.isReal(name);
            Arrays.fill(counts, 0);
            for (int i = from; i < to && table.finding == 0; i++) {
                int row = groups.members[i];
                table.readName(name, row, where, out);
                if (out.sort >= 0) {
                    counts[out.sort]++;
                }
                if (out.isNumber()) {
                    numbers[size] = out.bits;
                    times[size] = table.momentOf(row) - table.momentOf(groups.members[from]);
                    size++;
                }
            }
        }

        private void summarise(int how, int share) {
            if (how == Tokens.COUNT) {
                out.setWhole(counts[NUMBER]);
            } else if (isWithin(how, Tokens.MISSING_WORD, Tokens.IMPOSSIBLE_WORD)) {
                // These words stand in the order of the sorts.
                out.setWhole(counts[how - Tokens.THERE]);
            } else if (size == 0) {
                out.setEmpty(MISSING);
            } else if (how == Tokens.MEDIAN) {
                giveMedian();
            } else if (wantsOrder(how)) {
                pick(how, share);
            } else if (how == Tokens.FIRST || how == Tokens.LAST) {
                out.setNumber(numbers[how == Tokens.FIRST ? 0 : size - 1], real);
            } else {
                sumWholes();
            }
        }

        private static boolean isReckonedByReals(int how) {
            switch (how) {
                case Tokens.KSUM:
                case Tokens.MEAN:
                case Tokens.VAR:
                case Tokens.SLOPE:
                case Tokens.BASE:
                    return true;
                default:
                    return false;
            }
        }

        private void reckonReals(int how) {
            if (size == 0) {
                out.setEmpty(MISSING);
                return;
            }
            makeReal();
            long sum = 0;
            for (int i = 0; i < size; i++) {
                sum = Real.add(sum, numbers[i]);
            }
            long mean = Real.divide(sum, Real.ofWhole(size));
            switch (how) {
                case Tokens.SUM:
                    out.setReal(sum);
                    break;
                case Tokens.KSUM:
                    out.setReal(carefulSum());
                    break;
                case Tokens.MEAN:
                    out.setReal(mean);
                    break;
                case Tokens.VAR:
                    out.setReal(variance(mean));
                    break;
                default:
                    out.setReal(lineThrough(how == Tokens.SLOPE));
                    break;
            }
        }

        private void makeReal() {
            for (int i = 0; i < size && !real; i++) {
                numbers[i] = Real.ofWhole(numbers[i]);
            }
            real = true;
        }

        /** In two halves, so that only the whole sum can be too great. */
        private void sumWholes() {
            long high = 0;
            long low = 0;
            for (int i = 0; i < size; i++) {
                high += numbers[i] >> 32;
                low += numbers[i] & 0xffffffffL;
            }
            high += low >> 32;
            if (high == (int) high) {
                out.setWhole(high << 32 | low & 0xffffffffL);
            } else {
                out.setEmpty(OVERFLOW);
            }
        }

        private long carefulSum() {
            long s = 0;
            long c = 0;
            for (int i = 0; i < size; i++) {
                long x = numbers[i];
                long t = Real.add(s, x);
                boolean less = Real.compare(Real.size(s), Real.size(x)) < 0;
                long great = less ? x : s;
                long lost = Real.add(Real.add(great, Real.negative(t)), less ? s : x);
                c = Real.add(c, lost);
                s = t;
            }
            return Real.add(s, c);
        }

        private long variance(long mean) {
            long sum = 0;
            for (int i = 0; i < size; i++) {
                long off = Real.add(numbers[i], Real.negative(mean));
                sum = Real.add(sum, Real.multiply(off, off));
            }
            return Real.divide(sum, Real.ofWhole(size));
        }

        private long lineThrough(boolean slopeAlone) {
            long sumX = 0;
            long sumY = 0;
            long sumXy = 0;
            long sumXx = 0;
            for (int i = 0; i < size; i++) {
                long x = Real.ofWhole(times[i]);
                long y = numbers[i];
                sumX = Real.add(sumX, x);
                sumY = Real.add(sumY, y);
                sumXy = Real.add(sumXy, Real.multiply(x, y));
                sumXx = Real.add(sumXx, Real.multiply(x, x));
            }
            long n = Real.ofWhole(size);
            long over = Real.add(Real.multiply(n, sumXy), Real.negative(Real.multiply(sumX, sumY)));
            long under = Real.add(Real.multiply(n, sumXx), Real.negative(Real.multiply(sumX, sumX)));
            long slope = Real.divide(over, under);
            if (slopeAlone) {
                return slope;
            }
            return Real.divide(Real.add(sumY, Real.negative(Real.multiply(slope, sumX))), n);
        }

        // ---- by rank

        private int compareNumbers(long a, long b) {
            return real ? Real.compare(a, b) : Long.compare(a, b);
        }

        /** Drops what is IMPOSSIBLE and sorts the rest, like ones staying as they came. */
        private void sortNumbers() {
            int sorted = 0;
            for (int i = 0; i < size; i++) {
                long number = numbers[i];
                if (!real || !Real.isNone(number)) {
                    insertNumber(number, sorted);
                    sorted++;
                }
            }
            size = sorted;
        }

        private void insertNumber(long number, int sorted) {
            int low = 0;
            int high = sorted;
            for (int turn = 0; turn < JOINED && low < high; turn++) {
                int middle = (low + high) / 2;
                if (compareNumbers(numbers[middle], number) <= 0) {
                    low = middle + 1;
                } else {
                    high = middle;
                }
            }
            System.arraycopy(numbers, low, numbers, low + 1, sorted - low);
            numbers[low] = number;
        }

        private void pick(int how, int share) {
            int at = 0;
            if (how == Tokens.QUANT) {
                at = Math.max((share * size + 99) / 100, 1) - 1;
            } else if (how == Tokens.GREAT) {
                at = size - 1;
                while (at > 0 && compareNumbers(numbers[at - 1], numbers[at]) == 0) {
                    at--;
                }
            }
            out.setNumber(numbers[at], real);
        }

        private void giveMedian() {
            long upper = real ? numbers[size / 2] : Real.ofWhole(numbers[size / 2]);
            if (size % 2 == 1) {
                out.setReal(upper);
                return;
            }
            long lower = real ? numbers[size / 2 - 1] : Real.ofWhole(numbers[size / 2 - 1]);
            out.setReal(Real.divide(Real.add(lower, upper), Real.TWO));
        }
    }
}

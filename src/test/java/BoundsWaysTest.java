/** The boundary cases of the document: parts 5 and 6 (WAYS, MARKS), promises 25 to 27 and 34 to 37. */
public final class BoundsWaysTest {
    private static final int UNKNOWN = Bounds.UNKNOWN, OUTSIDE = Bounds.OUTSIDE, STATE = Bounds.STATE, ROOM = Bounds.ROOM, NONE = Bounds.NONE;

    private static long n(String name) {
        return Bounds.n(name);
    }

    private static void says(String words) {
        Bounds.says(words);
    }

    private static Bounds.Maker and(Bounds.Maker first, Bounds.Maker then) {
        return Bounds.both(first, then);
    }

    // ---- part 5

    /**
     * ROWS of SERIES 0 in so many SEGMENTS, ROWS of SERIES 1; of SERIES 0 a b c ints, m marks, y bytes, h shorts, l longs, o codes, f floats, r doubles,
     * k constant, s over a, d a + b; of SERIES 1 p ints.
     */
    private static Bounds.Maker house(int segments, int rows, int others) {
        return x -> {
            for (int i = 0; i < segments; i++) {
                x.segment(0);
            }
            for (int i = 0; i < rows; i++) {
                x.late(0, i % segments, i);
            }
            for (int i = 0; i < others; i++) {
                if (i % 16 == 0) {
                    x.segment(1);
                }
                x.late(1, i / 16, i);
            }
            String[] names = {"a", "b", "c", "m", "y", "h", "l", "o", "f", "r"};
            int[] kinds = {4, 4, 4, 0, 1, 2, 5, 3, 6, 7};
            for (int i = 0; i < names.length; i++) {
                x.plain(0, n(names[i]), kinds[i]);
            }
            x.constant(0, n("k"), 7, false);
            x.scaled(n("s"), 0, 1000, 0);
            x.derived(n("d"), 0, 1, 0);
            x.plain(1, n("p"), 4);
        };
    }

    private static void costs(Bounds.Maker maker, String text, int... want) {
        GapHouse x = Bounds.made(maker);
        int q = Bounds.ask(x, text);
        int best = -1;
        for (int way = 0; way < 4; way++) {
            Bounds.due("cost " + way + " of " + text, x.cost(q, way), want[way]);
            if (want[way] != NONE && (best < 0 || want[way] < want[best])) {
                best = way;
            }
        }
        Bounds.due("way of " + text, x.way(q), best);
        x.run(q);
        Bounds.due("way of the RUN of " + text, x.ended(2), best);
    }

    private static void costs() {
        says("R ROWS, T ROWS of the one that is joined (else 0), S SEGMENTS, C COLUMNS that are read: 0: 4 R C and 2 T; 1: 30, S C, R and 3 T");
        costs(house(3, 7, 5), "use 0; give a;", 4 * 7, 30 + 3 + 7, NONE, NONE);
        costs(house(3, 7, 5), "use 0; give a, b, a;", 4 * 7 * 2, 30 + 6 + 7, NONE, NONE);
        costs(house(3, 7, 5), "use 0; give moment;", 0, 30 + 7, NONE, NONE);
        costs(house(3, 7, 5), "use 0; join 1 near 5; give a;", 4 * 7 + 10, 30 + 3 + 7 + 15, NONE, NONE);
        costs(house(3, 7, 5), "use 0; join 1 on a p; give a;", 4 * 7 * 2 + 10, 30 + 6 + 7 + 15, NONE, NONE);
        costs(house(3, 7, 5), "use 1; give p;", 4 * 5, 30 + 1 + 5, NONE, NONE);
        costs(house(3, 7, 5), "use 1; join 0 near 1; give p, a;", 4 * 5 * 2 + 14, 30 + 2 + 5 + 21, NONE, NONE);
        costs(house(3, 7, 0), "use 0; join 1 near 5; give a;", 4 * 7, 30 + 3 + 7, NONE, NONE);
        costs(house(3, 7, 0), "use 1; give p;", 0, 30, NONE, NONE);
        costs(house(0, 0, 0), "use 0; give a;", 0, 30, NONE, NONE);
        costs(house(6, 96, 96), "use 0; join 1 near 5; let u = a + b + c + m + y + h + l; give u, p;", 4 * 96 * 8 + 192, 30 + 48 + 96 + 288, NONE, NONE);
        says("all ROWS of the SERIES, whatever from and where leave");
        costs(house(3, 7, 5), "use 0; from 90 to 99; where a = 1; give b;", 4 * 7 * 2, 30 + 6 + 7, NONE, NONE);
        says("C COLUMNS that are read (as of FAULT 5): by SCALED, DERIVED ones, too, all that they are over count");
        costs(house(3, 7, 5), "use 0; give s;", 4 * 7 * 2, 30 + 6 + 7, NONE, NONE);
        costs(house(3, 7, 5), "use 0; give d;", 4 * 7 * 3, 30 + 9 + 7, NONE, NONE);
        costs(house(3, 7, 5), "use 0; give d, s, a, b;", 4 * 7 * 4, 30 + 12 + 7, NONE, NONE);
        costs(house(3, 7, 5), "use 0; let u = 5; let v = u + k; fill c 1; where r is there; sort f; give u, v;", 4 * 7 * 4, 30 + 12 + 7, NONE, NONE);

        says("2 by KEPT SUMS: 10 and S I: only of a group all, whose ITEMS are count or sum of PLAIN COLUMNS of KINDS 0, 1, 2, 4, 5");
        for (String name : new String[] {"m", "y", "h", "a", "l"}) {
            costs(house(3, 7, 5), "use 0; group all; give count " + name + ";", 28, 40, 10 + 3, NONE);
            costs(house(3, 7, 5), "use 0; group all; give sum " + name + ", count " + name + ";", 28, 40, 10 + 6, NONE);
        }
        for (String name : new String[] {"o", "f", "r", "k"}) {
            costs(house(3, 7, 5), "use 0; group all; give count " + name + ";", 28, 40, NONE, NONE);
            costs(house(3, 7, 5), "use 0; group all; give count a, count " + name + ";", 56, 43, NONE, NONE);
            costs(house(3, 7, 5), "use 0; group all; give count " + name + ", sum a;", 56, 43, NONE, NONE);
        }
        costs(house(3, 7, 5), "use 0; group all; give count s;", 56, 43, NONE, NONE);
        costs(house(3, 7, 5), "use 0; group all; give count d;", 84, 46, NONE, NONE);
        costs(house(3, 7, 5), "use 0; group all; give count a, count a, count a, count a, count a, sum a;", 28, 40, 10 + 18, NONE);
        costs(house(0, 0, 0), "use 0; group all; give count a;", 0, 30, 10, NONE);
        String[] acts = {"missing", "beyond", "other", "impossible", "ksum", "mean", "var", "least", "great", "median", "first", "last", "slope", "base", "quant 5"};
        for (String act : acts) {
            costs(house(3, 7, 5), "use 0; group all; give " + act + " a;", 28, 40, NONE, NONE);
            costs(house(3, 7, 5), "use 0; group all; give count a, " + act + " a;", 28, 40, NONE, NONE);
        }
        costs(house(3, 7, 5), "use 0; group all; give count a, moment;", 28, 40, NONE, NONE);
        costs(house(3, 7, 5), "use 0; group all; give moment;", 0, 37, NONE, NONE);
        says("without known, from, join, let, fill, where");
        costs(house(3, 7, 5), "use 0; known 999999999999; group all; give count a;", 28, 40, NONE, NONE);
        costs(house(3, 7, 5), "use 0; from 0 to 99; group all; give count a;", 28, 40, NONE, NONE);
        costs(house(3, 7, 5), "use 0; join 1 near 5; group all; give count a;", 38, 55, NONE, NONE);
        costs(house(3, 7, 5), "use 0; join 1 on a p; group all; give count a;", 66, 58, NONE, NONE);
        costs(house(3, 7, 5), "use 0; let u = 1; group all; give count a;", 28, 40, NONE, NONE);
        costs(house(3, 7, 5), "use 0; let u = 1; group all; give count u;", 0, 37, NONE, NONE);
        costs(house(3, 7, 5), "use 0; fill a 1; group all; give count a;", 28, 40, NONE, NONE);
        costs(house(3, 7, 5), "use 0; where 1 = 1; group all; give count a;", 28, 40, NONE, NONE);
        costs(house(3, 7, 5), "use 0; span count 5; give count a;", 28, 40, NONE, NONE);
        costs(house(3, 7, 5), "use 0; span time 5; give count a;", 28, 40, NONE, NONE);

        says("3 by KEYS: 20, 2 R C and R / 2 (cut): only with group of NAMES");
        costs(house(3, 7, 5), "use 0; group a; give count a;", 28, 40, NONE, 20 + 14 + 3);
        costs(house(3, 8, 5), "use 0; group a; give count a;", 32, 41, NONE, 20 + 16 + 4);
        costs(house(3, 1, 5), "use 0; group a, b; give count a;", 8, 37, NONE, 20 + 4);
        costs(house(3, 7, 5), "use 0; known 5; from 1 to 9; join 1 near 5; let u = 1; fill a 1; where a = 1; group u; give count p;", 56 + 10, 30 + 6 + 7 + 15, NONE,
            20 + 28 + 3);
        costs(house(0, 0, 0), "use 0; group a; give count a;", 0, 30, NONE, 20);
        costs(house(3, 7, 5), "use 0; sort a; give a;", 28, 40, NONE, NONE);
    }

    private static void ways() {
        says("The one that costs least is taken, of like ones the first");
        costs(house(3, 10, 0), "use 0; give a;", 40, 43, NONE, NONE);
        costs(house(3, 11, 0), "use 0; give a;", 44, 44, NONE, NONE);
        costs(house(3, 12, 0), "use 0; give a;", 48, 45, NONE, NONE);
        costs(house(2, 3, 0), "use 0; group all; give count a;", 12, 35, 12, NONE);
        costs(house(2, 2, 0), "use 0; group all; give count a;", 8, 34, 12, NONE);
        costs(house(2, 4, 0), "use 0; group all; give count a;", 16, 36, 12, NONE);
        costs(house(1, 4, 7), "use 0; join 1 near 1; group a; give count a;", 30, 56, NONE, 30);
        costs(house(1, 4, 8), "use 0; join 1 near 1; group a; give count a;", 32, 59, NONE, 30);
        costs(house(1, 4, 6), "use 0; join 1 near 1; group a; give count a;", 28, 53, NONE, 30);
        costs(house(4, 4, 0), "use 0; group a; give count b, count c;", 48, 46, NONE, 46);
        costs(house(3, 4, 0), "use 0; group a; give count b, count c;", 48, 43, NONE, 46);
        costs(house(5, 4, 0), "use 0; group a; give count b, count c;", 48, 49, NONE, 46);

        says("or one that is FORCED, while it can be");
        Bounds.Maker maker = and(house(3, 12, 5), x -> {
            Bounds.ask(x, "use 0; give a;");
            Bounds.ask(x, "use 0; group all; give count a;");
            Bounds.ask(x, "use 0; group a; give count a;");
        });
        int[][] can = {{0, 1}, {0, 1, 2}, {0, 1, 3}};
        int[] best = {1, 2, 1};
        for (int query = 0; query < 3; query++) {
            int q = query;
            Bounds.tells(maker, x -> x.way(q), best[q]);
            for (int way = 0; way < 4; way++) {
                int w = way;
                boolean could = false;
                for (int c : can[q]) {
                    could |= c == way;
                }
                Bounds.Maker forced = and(maker, x -> Bounds.due("force()", x.force(q, w), 1));
                Bounds.tells(forced, x -> x.way(q), could ? way : best[q]);
                Bounds.answers(and(forced, x -> x.run(q)), x -> x.ended(2), could ? way : best[q]);
                Bounds.answers(and(forced, x -> x.force(q, NONE)), x -> x.way(q), best[q]);
                Bounds.tells(forced, x -> x.way((q + 1) % 3), best[(q + 1) % 3]);
                Bounds.tells(forced, x -> x.cost(q, 0), Bounds.made(maker).cost(q, 0));
                Bounds.tells(forced, x -> x.cost(q, 2), Bounds.made(maker).cost(q, 2));
            }
        }
        Bounds.answers(and(maker, x -> {
            x.force(0, 0);
            x.force(0, 3);
        }), x -> x.way(0), 1);
        Bounds.answers(and(maker, x -> {
            x.force(0, 3);
            x.force(0, 0);
        }), x -> x.way(0), 0);
        says("force: (NONE: no more): 1; UNKNOWN; OUTSIDE");
        Bounds.answers(maker, x -> x.force(0, NONE), 1);
        for (int way : new int[] {-1, 4, -108, -110, Integer.MIN_VALUE, Integer.MAX_VALUE}) {
            Bounds.refuses(maker, x -> x.force(0, way), OUTSIDE);
            Bounds.refuses(and(maker, x -> x.force(0, 0)), x -> x.force(0, way), OUTSIDE);
            Bounds.refuses(maker, x -> x.force(3, way), UNKNOWN);
            Bounds.tells(maker, x -> x.cost(0, way), OUTSIDE);
            Bounds.tells(maker, x -> x.cost(3, way), UNKNOWN);
        }
        Bounds.tells(maker, x -> x.cost(0, NONE), OUTSIDE);
        for (int query : new int[] {-1, 3, 8, Integer.MIN_VALUE, Integer.MAX_VALUE}) {
            Bounds.refuses(maker, x -> x.force(query, 0), UNKNOWN);
            Bounds.tells(maker, x -> x.cost(query, 0), UNKNOWN);
            Bounds.tells(maker, x -> x.way(query), UNKNOWN);
            Bounds.refuses(maker, x -> x.run(query), UNKNOWN);
        }
        says("What a QUERY costs: by what there is when it is asked");
        Bounds.answers(maker, x -> x.cost(0, 0), 48);
        Bounds.answers(and(maker, x -> x.late(0, 0, 5)), x -> x.cost(0, 0), 52);
        Bounds.answers(and(maker, x -> x.segment(0)), x -> x.cost(0, 1), 30 + 4 + 12);
        Bounds.answers(and(maker, x -> x.thin(0, 2)), x -> x.cost(0, 0), 4 * 6);
        Bounds.answers(and(maker, x -> x.glue(0, 0)), x -> x.cost(1, 2), 10 + 2);
        Bounds.answers(and(maker, x -> x.late(1, 0, 5)), x -> x.cost(0, 1), 30 + 3 + 12);

        says("Whatever way is taken, RESULTS and FINDINGS are the same");
        Bounds.Maker filled = and(house(3, 12, 5), x -> {
            x.spread(0, Long.MAX_VALUE, false);
            x.spread(6, Long.MAX_VALUE, false);
            x.correct(6, 0, 0, 1, false, 0);
            x.put(0, 1, 5, 2);
            x.put(1, 0, 4, 2);
        });
        Bounds.gives(filled, "use 0; group all; give count a, sum a, count b, sum m, count l;", "8 -8 2 #1 12");
        Bounds.gives(filled, "use 0; group all; give count a, ^sum l;", "!1");
        Bounds.gives(filled, "use 0; group a; give a, count a, sum b;", "-1 8 0|#3 0 #1");
        Bounds.gives(filled, "use 0; group l; give count l, ^sum l;", "!1");
    }

    // ---- part 6

    /** SERIES 0: SEGMENTS of 2 and 1 ROWS, 1: one of 1; a ints, k constant, s over a, d a + k, b of SERIES 1; ARRAYS, CORRECTIONS. */
    private static final Bounds.Maker SOME = x -> {
        x.segment(0);
        x.segment(0);
        x.segment(1);
        Bounds.rows(x, 0, 0, 5, 3);
        Bounds.rows(x, 0, 1, 6);
        Bounds.rows(x, 1, 0, 1);
        x.plain(0, n("a"), 4);
        x.constant(0, n("k"), 7, false);
        x.scaled(n("s"), 0, 1500, -250);
        x.derived(n("d"), 0, 1, 0);
        x.plain(1, n("b"), 7);
        Bounds.wholes(x, 0, 0, 1, 2);
        Bounds.wholes(x, 0, 1, 3);
        Bounds.reals(x, 4, 0, 1.5);
        x.correct(0, 0, 1, 9, false, 0);
        x.correct(4, 0, 0, 9, false, 10);
    };

    private static final Bounds.Maker[] CHANGES = {x -> x.segment(0), x -> x.segment(1), x -> x.late(0, 0, 9), x -> x.late(1, 0, 9), x -> x.plain(0, n("y"), 4),
        x -> x.constant(1, n("y"), 4, true), x -> x.scaled(n("y"), 0, 1, 1), x -> x.derived(n("y"), 0, 0, 1), x -> x.put(0, 0, 7, 9), x -> x.put(4, 0, 7, 0),
        x -> x.store(0, 0, 0, 77, false), x -> x.store(4, 0, 0, 77, false), x -> x.drop(0, 0), x -> x.drop(4, 0), x -> x.spread(0, 5, false), x -> x.spread(4, 5, false),
        x -> x.glue(0, 0), x -> x.thin(0, 2), x -> x.correct(0, 1, 0, 5, false, 0), x -> x.correct(4, 0, 0, 5, false, 10), x -> {
            x.glue(0, 0);
            x.segment(0);
            x.late(0, 1, 99);
            x.put(0, 1, 4, 20);
            x.correct(0, 1, 0, 5, false, 0);
        }, x -> {
            x.thin(0, 2);
            x.correct(0, 0, 0, 5, false, 3);
        }};

    private static void marks() {
        says("MARKS (3 at most, 0, 1, ..); ROOM");
        Bounds.Maker three = and(SOME, x -> {
            for (int i = 0; i < 3; i++) {
                Bounds.due("mark()", x.mark(), i);
                x.late(0, 0, 100 + i);
            }
        });
        Bounds.answers(SOME, x -> x.mark(), 0);
        Bounds.refuses(three, x -> x.mark(), ROOM);
        Bounds.answers(three, x -> x.count(7), 3);
        Bounds.answers(and(three, x -> x.undo(1)), x -> x.mark(), 2);
        Bounds.answers(and(three, x -> x.undo(0)), x -> x.mark(), 1);
        Bounds.refuses(and(three, x -> x.undo(2)), x -> x.mark(), ROOM);
        Bounds.answers(and(three, x -> x.clear()), x -> x.mark(), 0);

        says("undo: how many later MARKS went; UNKNOWN");
        for (int mark = 0; mark < 3; mark++) {
            int m = mark;
            Bounds.answers(three, x -> x.undo(m), 2 - mark);
            Bounds.answers(and(three, x -> x.undo(m)), x -> x.count(7), mark + 1);
            Bounds.answers(and(three, x -> x.undo(m)), x -> x.undo(m), 0);
            Bounds.answers(and(three, x -> x.undo(m)), x -> x.count(2), 3 + mark);
            Bounds.refuses(and(three, x -> x.undo(m)), x -> x.undo(m + 1), UNKNOWN);
        }
        for (int mark : new int[] {-1, 3, Integer.MIN_VALUE, Integer.MAX_VALUE}) {
            Bounds.refuses(three, x -> x.undo(mark), UNKNOWN);
        }
        Bounds.refuses(SOME, x -> x.undo(0), UNKNOWN);
        Bounds.refuses(Bounds.NEW, x -> x.undo(0), UNKNOWN);
        Bounds.refuses(and(three, x -> x.clear()), x -> x.undo(0), UNKNOWN);

        says("keep all of the SERIES, COLUMNS, ARRAYS, CORRECTIONS. UNDONE to one, these are as then (that MARK stays, later ones are gone)");
        Bounds.Maker marked = and(SOME, x -> x.mark());
        String want = Bounds.view(Bounds.made(marked));
        for (Bounds.Maker change : CHANGES) {
            Bounds.due("a change shows", Bounds.view(Bounds.made(and(marked, change))).equals(want), false);
            Bounds.due("undone", Bounds.view(Bounds.made(and(and(marked, change), x -> x.undo(0)))), want);
            Bounds.due("undone, changed, undone", Bounds.view(Bounds.made(and(and(marked, change), x -> {
                x.undo(0);
                change.make(x);
                x.undo(0);
            }))), want);
            Bounds.due("undone over a later MARK", Bounds.view(Bounds.made(and(and(marked, change), x -> {
                x.mark();
                change.make(x);
                x.undo(0);
            }))), want);
            Bounds.due("undone to the later MARK", Bounds.view(Bounds.made(and(and(marked, change), x -> {
                x.mark();
                change.make(x);
                x.undo(1);
            }))), Bounds.view(Bounds.made(and(and(marked, change), x -> x.mark()))));
        }
        fullMark();
        says("a NAME that went with its COLUMN is free again");
        Bounds.answers(and(marked, x -> {
            x.plain(0, n("y"), 4);
            x.undo(0);
        }), x -> x.find(n("y")), NONE);
        Bounds.answers(and(marked, x -> {
            x.plain(0, n("y"), 4);
            x.put(5, 0, 4, 3);
            x.undo(0);
            x.plain(0, n("y"), 4);
        }), x -> x.array(5, 0, 0), NONE);

        says("QUERIES (8 at most), the RESULT stay; so do THE TAPE, RUNS, FAULT");
        Bounds.Maker asked = and(marked, x -> {
            x.run(Bounds.ask(x, "use 0; give a, s;"));
            x.force(0, 1);
            x.run(0);
            Bounds.ask(x, "use 2;");
            Bounds.tape(x, "use 0; give k;");
        });
        Bounds.Maker undone = and(asked, x -> x.undo(0));
        Bounds.due("all of these", Bounds.view(Bounds.made(undone)), Bounds.view(Bounds.made(asked)));
        Bounds.answers(undone, x -> x.count(6), 1);
        Bounds.answers(undone, x -> x.count(8), 2);
        Bounds.answers(undone, x -> x.ended(4), 3);
        Bounds.answers(undone, x -> x.ended(2), 1);
        Bounds.answers(undone, x -> x.fault(), 3);
        Bounds.answers(undone, x -> x.count(9), 14);
    }

    /** All that there can be: 6 SEGMENTS of 16 ROWS each, 16 PLAIN COLUMNS with ARRAYS, 40 CORRECTIONS. */
    private static final Bounds.Maker FULL = x -> {
        for (int i = 0; i < 12; i++) {
            x.segment(i % 2);
            for (int row = 0; row < 16; row++) {
                x.late(i % 2, i / 2, 1000 * i + row);
            }
        }
        for (int i = 0; i < 16; i++) {
            x.plain(i % 2, n("c" + (char) ('a' + i)), 5);
            x.spread(i, 100 + i, false);
        }
        for (int i = 0; i < 40; i++) {
            x.correct(i % 16, i % 6, i % 16, 2000 + i, false, i);
        }
    };

    /** So many calls tell of FULL that each object is asked for a COLUMN alone. */
    private static String fullView(Bounds.Maker maker, int column) {
        GapHouse x = Bounds.made(maker);
        StringBuilder b = new StringBuilder();
        for (int segment = 0; segment < 6; segment++) {
            b.append("\n").append(x.array(column, segment, 0)).append(' ').append(x.array(column, segment, 1));
            for (int row = 0; row < 16; row++) {
                b.append(' ').append(x.moment(column % 2, segment, row)).append(' ').append(x.read(column, segment, row, 20)).append(' ')
                    .append(x.read(column, segment, row, 39));
            }
        }
        return b.toString();
    }

    private static void fullMark() {
        says("MARKS keep all, as much as there can be");
        Bounds.Maker marked = and(FULL, x -> x.mark());
        Bounds.Maker undone = and(marked, x -> {
            for (int series = 0; series < 2; series++) {
                x.thin(series, 2);
                for (int i = 0; i < 5; i++) {
                    x.glue(series, 0);
                }
            }
            for (int i = 0; i < 16; i++) {
                x.spread(i, 7, false);
                x.correct(i, 0, 0, 8, false, 1);
            }
            x.undo(0);
        });
        for (int column = 0; column < 16; column++) {
            Bounds.due("COLUMN " + column, fullView(undone, column), fullView(marked, column));
        }
        for (int what = 0; what < 8; what++) {
            int w = what;
            Bounds.answers(undone, x -> x.count(w), new int[] {6, 6, 96, 96, 16, 40, 0, 1}[w]);
        }
    }

    /** SOME with a MARK, then y and SCALED w over it, z over a; QUERIES: y in each clause, w, z, none of them. */
    private static final String[] READ = {"use 0; give y;", "use 0; let u = y; give a;", "use 0; fill y 1; give a;", "use 0; where y is there; give a;",
        "use 0; group y; give count a;", "use 0; join 1 on y b; give a;", "use 0; give w;", "use 0; sort z; give a;"};

    private static final Bounds.Maker GONE = and(SOME, x -> {
        x.mark();
        x.plain(0, n("y"), 4);
        x.scaled(n("w"), 5, 1, 1);
        x.scaled(n("z"), 0, 1, 1);
    });

    private static void lostColumns() {
        says("A QUERY that reads a COLUMN that is no more can not RUN (STATE), also when another one has its number now");
        Bounds.Maker again = x -> {
            x.plain(0, n("y"), 4);
            x.scaled(n("w"), 5, 1, 1);
            x.scaled(n("z"), 0, 1, 1);
        };
        Bounds.Maker other = x -> {
            x.constant(0, n("p"), 4, false);
            x.constant(0, n("q"), 4, false);
            x.constant(0, n("r"), 4, false);
        };
        for (String text : READ) {
            Bounds.Maker asked = and(GONE, x -> {
                Bounds.ask(x, text);
                Bounds.ask(x, "use 0; give a, s;");
                x.run(1);
            });
            Bounds.answers(asked, x -> x.run(0) >= 0 ? 1 : 0, 1);
            Bounds.Maker undone = and(asked, x -> x.undo(0));
            for (Bounds.Maker maker : new Bounds.Maker[] {undone, and(undone, again), and(undone, other)}) {
                Bounds.refuses(maker, x -> x.run(0), STATE);
                for (int way = 0; way < 4; way++) {
                    int w = way;
                    Bounds.tells(maker, x -> x.cost(0, w), STATE);
                }
                Bounds.tells(maker, x -> x.way(0), STATE);
                Bounds.tells(maker, x -> x.cost(0, 4), OUTSIDE);
                Bounds.tells(maker, x -> x.cost(0, -1), OUTSIDE);
                Bounds.answers(maker, x -> x.run(1), 3);
                Bounds.answers(and(maker, x -> x.run(0)), x -> x.count(8), 1);
                says("force: whether it can be worked so or not");
                Bounds.answers(maker, x -> x.force(0, 2), 1);
                Bounds.refuses(maker, x -> x.force(0, 4), OUTSIDE);
                says("A QUERY that reads a COLUMN that is no more can not RUN (STATE), also when another one has its number now");
            }
            Bounds.answers(and(asked, x -> {
                x.mark();
                x.undo(1);
            }), x -> x.run(0) >= 0 ? 1 : 0, 1);
        }
        says("the first COLUMN, too, and the last one");
        for (String name : new String[] {"ca", "cp"}) {
            Bounds.refuses(x -> {
                x.segment(0);
                x.mark();
                for (int i = 0; i < 16; i++) {
                    x.constant(0, n("c" + (char) ('a' + i)), i, false);
                }
                Bounds.ask(x, "use 0; give " + name + ";");
                x.undo(0);
                for (int i = 0; i < 16; i++) {
                    x.constant(0, n("c" + (char) ('a' + i)), i, false);
                }
            }, x -> x.run(0), STATE);
        }
        says("run: STATE ahead of ROOM");
        Bounds.Maker full = and(GONE, x -> {
            Bounds.ask(x, "use 0; give y;");
            Bounds.ask(x, "use 0; give moment;");
            for (int i = 0; i < 150; i++) {
                x.run(1);
            }
            x.undo(0);
        });
        Bounds.refuses(full, x -> x.run(0), STATE);
        Bounds.refuses(full, x -> x.run(1), ROOM);
        says("a QUERY that reads no COLUMN can RUN");
        Bounds.answers(and(GONE, x -> {
            Bounds.ask(x, "use 0; give moment;");
            x.undo(0);
        }), x -> x.run(0), 3);
        says("a let, an ITEM by another NAME's number is none of its COLUMNS");
        Bounds.answers(and(GONE, x -> {
            Bounds.ask(x, "use 0; let v = a; give v;");
            x.undo(0);
            x.plain(0, n("v"), 4);
        }), x -> x.run(0), 3);
    }

    // ---- promises 36, 37

    private static void countAndClear() {
        says("count: OUTSIDE");
        for (int what : new int[] {-1, 10, Integer.MIN_VALUE, Integer.MAX_VALUE}) {
            Bounds.tells(SOME, x -> x.count(what), OUTSIDE);
            Bounds.tells(Bounds.NEW, x -> x.count(what), OUTSIDE);
        }
        says("count: SEGMENTS of SERIES 0, 1, ROWS of 0, of 1, COLUMNS, CORRECTIONS, QUERIES, MARKS, RUNS, bytes of THE TAPE");
        Bounds.Maker all = and(SOME, x -> {
            x.late(1, 0, 2);
            x.late(1, 0, 3);
            x.late(1, 0, 4);
            for (int i = 0; i < 3; i++) {
                x.mark();
            }
            for (int i = 0; i < 6; i++) {
                Bounds.ask(x, "use 0; give a;");
            }
            for (int i = 0; i < 8; i++) {
                x.run(0);
            }
            Bounds.tape(x, "use 0; give k;");
        });
        int[] want = {2, 1, 3, 4, 5, 2, 6, 3, 8, 14};
        for (int what = 0; what < 10; what++) {
            int w = what;
            Bounds.tells(all, x -> x.count(w), want[w]);
        }

        says("clear: all is as at the beginning (but how many RUNS there were): how many COLUMNS there were");
        Bounds.answers(all, x -> x.clear(), 5);
        Bounds.answers(Bounds.NEW, x -> x.clear(), 0);
        Bounds.answers(and(all, x -> x.clear()), x -> x.clear(), 0);
        Bounds.Maker sixteen = x -> {
            for (int i = 0; i < 16; i++) {
                x.constant(i % 2, n("c" + (char) ('a' + i)), i, false);
            }
        };
        Bounds.answers(sixteen, x -> x.clear(), 16);
        Bounds.Maker cleared = and(all, x -> x.clear());
        for (int what = 0; what < 10; what++) {
            int w = what;
            Bounds.answers(cleared, x -> x.count(w), w == 8 ? 8 : 0);
        }
        Bounds.due("all as at the beginning", viewWithoutRuns(cleared), viewWithoutRuns(Bounds.NEW));
        Bounds.due("all as at the beginning, and from there on", viewWithoutRuns(and(cleared, SOME)), viewWithoutRuns(SOME));
        Bounds.answers(cleared, x -> x.fault(), 0);
        Bounds.answers(and(SOME, x -> {
            Bounds.ask(x, "use 2;");
            x.clear();
        }), x -> x.fault(), 0);
        Bounds.answers(cleared, x -> x.run(0), UNKNOWN);
        Bounds.answers(cleared, x -> x.undo(0), UNKNOWN);
        Bounds.answers(cleared, x -> x.segment(0), 0);
        Bounds.answers(cleared, x -> x.plain(0, n("a"), 4), 0);
        Bounds.answers(cleared, x -> x.mark(), 0);
        Bounds.answers(cleared, x -> x.query(), -200);
        Bounds.answers(cleared, x -> x.feed(0, 0, 0, 0, 0), 20);
        Bounds.answers(and(cleared, x -> x.segment(0)), x -> x.late(0, 0, 1), 0);
        Bounds.answers(and(and(all, x -> x.force(0, 1)), x -> {
            x.clear();
            SOME.make(x);
            Bounds.ask(x, "use 0; give a;");
        }), x -> x.way(0), 0);
        Bounds.Maker failed = and(SOME, x -> {
            x.run(Bounds.ask(x, "use 0; let u = 1 / 0; give u;"));
            x.clear();
        });
        Bounds.due("all as at the beginning behind a FINDING", viewWithoutRuns(failed), viewWithoutRuns(Bounds.NEW));
        Bounds.answers(failed, x -> x.ended(0), 0);
        Bounds.answers(failed, x -> x.ended(1), NONE);
        says("a QUERY of before is gone with clear()");
        Bounds.answers(and(cleared, SOME), x -> x.way(0), UNKNOWN);
    }

    private static String viewWithoutRuns(Bounds.Maker maker) {
        return Bounds.view(Bounds.made(maker)).replaceAll("(counts(?: -?\\d+){8}) \\d+", "$1 *");
    }

    public static void main(String[] args) {
        costs();
        ways();
        marks();
        lostColumns();
        countAndClear();
        Bounds.close();
    }
}

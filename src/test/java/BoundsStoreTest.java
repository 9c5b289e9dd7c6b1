/** The boundary cases of the document: the codes, parts 1 and 2, promises 1 and 4 to 22. */
public final class BoundsStoreTest {
    private static final int UNKNOWN = Bounds.UNKNOWN, OUTSIDE = Bounds.OUTSIDE, STATE = Bounds.STATE, ROOM = Bounds.ROOM, NONE = Bounds.NONE;
    private static final long MOST = Bounds.MOST;

    /**
     * SERIES 0: SEGMENTS of 3, 2 and 0 ROWS, 1: one of 1; a 0, constant k 1, scaled s 2, derived d 3, b 4 (of SERIES 1), a CORRECTION,
     * a MARK, a QUERY with its RESULT, a text on THE TAPE.
     */
    private static final Bounds.Maker SOME = x -> {
        x.segment(0);
        x.segment(0);
        x.segment(0);
        x.segment(1);
        Bounds.rows(x, 0, 0, 5, 3, 4);
        Bounds.rows(x, 0, 1, 6, 7);
        Bounds.rows(x, 1, 0, 1);
        x.plain(0, n("a"), 4);
        x.constant(0, n("k"), 7, false);
        x.scaled(n("s"), 0, 1500, -250);
        x.derived(n("d"), 0, 1, 0);
        x.plain(1, n("b"), 7);
        Bounds.wholes(x, 0, 0, 1, 2, 3);
        Bounds.wholes(x, 0, 1, 4);
        Bounds.reals(x, 4, 0, 1.5);
        x.correct(0, 0, 1, 9, false, 10);
        x.mark();
        x.run(Bounds.ask(x, "use 0; give a, s, d;"));
        Bounds.tape(x, "use 0; give k;");
    };

    /** SOME with 16 COLUMNS. */
    private static final Bounds.Maker FULL = Bounds.both(SOME, x -> {
        for (int i = 5; i < 16; i++) {
            x.plain(i % 2, n("z" + (char) ('a' + i)), i % 8);
        }
    });

    /** A SEGMENT with a ROW in SERIES 0. */
    private static final Bounds.Maker ONE = x -> {
        x.segment(0);
        x.late(0, 0, 5);
    };

    private static long n(String name) {
        return Bounds.n(name);
    }

    private static long d(double v) {
        return Bounds.d(v);
    }

    private static void says(String words) {
        Bounds.says(words);
    }

    private static void answers(Bounds.Maker maker, Bounds.Call call, long want) {
        Bounds.answers(maker, call, want);
    }

    private static void refuses(Bounds.Maker maker, Bounds.Call call, long code) {
        Bounds.refuses(maker, call, code);
    }

    private static void tells(Bounds.Maker maker, Bounds.Call call, long want) {
        Bounds.tells(maker, call, want);
    }

    private static Bounds.Maker both(Bounds.Maker first, Bounds.Maker then) {
        return Bounds.both(first, then);
    }

    // ---- the codes

    private static void orderOfCodes() {
        says("Codes, the first of these that fits: UNKNOWN, OUTSIDE, STATE, ROOM; then nothing changes");
        Bounds.Maker fullSegment = both(SOME, x -> Bounds.rows(x, 0, 2, 1, 2, 3, 4, 5, 6, 7, 8, 9, 10, 11, 12, 13, 14, 15, 16));
        refuses(fullSegment, x -> x.late(0, 3, MOST + 1), UNKNOWN);
        refuses(fullSegment, x -> x.late(0, 2, MOST + 1), OUTSIDE);
        refuses(fullSegment, x -> x.late(0, 2, MOST), ROOM);
        refuses(FULL, x -> x.plain(2, n("use"), 8), UNKNOWN);
        refuses(FULL, x -> x.plain(0, n("a"), 8), OUTSIDE);
        refuses(FULL, x -> x.plain(0, n("use"), 7), OUTSIDE);
        refuses(FULL, x -> x.plain(0, n("a"), 7), STATE);
        refuses(FULL, x -> x.plain(0, n("y"), 7), ROOM);
        refuses(FULL, x -> x.constant(-1, n("use"), MOST + 1, true), UNKNOWN);
        refuses(FULL, x -> x.constant(0, n("a"), MOST + 1, true), OUTSIDE);
        refuses(FULL, x -> x.constant(0, n("use"), MOST, true), OUTSIDE);
        refuses(FULL, x -> x.constant(0, n("a"), MOST, true), STATE);
        refuses(FULL, x -> x.constant(0, n("y"), MOST, true), ROOM);
        refuses(FULL, x -> x.scaled(n("use"), 16, 1, 1), UNKNOWN);
        refuses(FULL, x -> x.scaled(n("use"), 0, 1, 1), OUTSIDE);
        refuses(FULL, x -> x.scaled(n("a"), 0, 1, 1), STATE);
        refuses(FULL, x -> x.scaled(n("y"), 0, 1, 1), ROOM);
        refuses(FULL, x -> x.derived(n("use"), 16, 0, 5), UNKNOWN);
        refuses(FULL, x -> x.derived(n("use"), 0, 16, 5), UNKNOWN);
        refuses(FULL, x -> x.derived(n("a"), 3, 0, 5), OUTSIDE);
        refuses(FULL, x -> x.derived(n("a"), 3, 4, 0), OUTSIDE);
        refuses(FULL, x -> x.derived(n("use"), 3, 0, 0), OUTSIDE);
        refuses(FULL, x -> x.derived(n("a"), 0, 0, 0), STATE);
        refuses(FULL, x -> x.derived(n("y"), 3, 0, 0), STATE);
        refuses(FULL, x -> x.derived(n("y"), 0, 0, 0), ROOM);
        refuses(SOME, x -> x.put(1, 3, 8, 21), UNKNOWN);
        refuses(SOME, x -> x.put(1, 0, 8, 0), OUTSIDE);
        refuses(SOME, x -> x.put(1, 0, 0, 21), OUTSIDE);
        refuses(SOME, x -> x.put(1, 0, 0, 20), STATE);
        refuses(SOME, x -> x.store(1, 3, 0, 0, false), UNKNOWN);
        refuses(SOME, x -> x.drop(1, 3), UNKNOWN);
        Bounds.Maker corrected = both(SOME, x -> {
            for (int i = 1; i < 40; i++) {
                x.correct(0, 0, 0, i, false, i);
            }
        });
        refuses(corrected, x -> x.correct(1, 0, 3, 0, false, -1), UNKNOWN);
        refuses(corrected, x -> x.correct(1, 0, 0, 0, false, -1), OUTSIDE);
        refuses(corrected, x -> x.correct(1, 0, 0, 0, false, 0), STATE);
        refuses(corrected, x -> x.correct(0, 0, 0, 0, false, 0), ROOM);
        refuses(fullSegment, x -> x.glue(0, 2), UNKNOWN);
        refuses(fullSegment, x -> x.glue(0, 1), ROOM);
        tells(SOME, x -> x.thin(2, 1), UNKNOWN);
        tells(SOME, x -> x.array(1, 3, 2), UNKNOWN);
        tells(SOME, x -> x.array(1, 0, 2), OUTSIDE);
        tells(SOME, x -> x.told(5, 6), UNKNOWN);

        says("-10 to -13, what the machine refuses, behind all codes");
        refuses(SOME, x -> x.put(0, 3, 0, -1), UNKNOWN);
        refuses(SOME, x -> x.put(0, 0, 8, -1), OUTSIDE);
        refuses(SOME, x -> x.put(1, 0, 0, -1), STATE);
        refuses(SOME, x -> x.store(1, 0, 9, 0, false), STATE);
        refuses(both(fullSegment, x -> x.put(0, 2, 0, 0)), x -> x.glue(0, 1), ROOM);

        says("What answers a long tells 0 instead of all these");
        tells(SOME, x -> x.read(5, 0, 0, 0), 0);
        tells(SOME, x -> x.read(-1, 0, 0, 0), 0);
        tells(SOME, x -> x.read(0, 3, 0, 0), 0);
        tells(SOME, x -> x.read(0, -1, 0, 0), 0);
        tells(SOME, x -> x.read(0, 0, 3, 0), 0);
        tells(SOME, x -> x.read(0, 0, -1, 0), 0);
        tells(SOME, x -> x.moment(2, 0, 0), 0);
        tells(SOME, x -> x.moment(-1, 0, 0), 0);
        tells(SOME, x -> x.moment(0, 3, 0), 0);
        tells(SOME, x -> x.moment(0, -1, 0), 0);
        tells(SOME, x -> x.moment(0, 0, 3), 0);
        tells(SOME, x -> x.moment(0, 0, -1), 0);
        tells(SOME, x -> x.cell(5, 0), 0);
        tells(SOME, x -> x.cell(0, 3), 0);
        tells(SOME, x -> x.cell(-1, 0), 0);
        tells(SOME, x -> x.cell(0, -1), 0);
        tells(Bounds.NEW, x -> x.cell(0, 0), 0);
    }

    // ---- part 1: SERIES, SEGMENTS, ROWS, MOMENTS

    private static void series() {
        int[] none = {-1, 2, Integer.MIN_VALUE, Integer.MAX_VALUE};
        for (int s : none) {
            says("SERIES 0 and 1");
            refuses(SOME, x -> x.segment(s), UNKNOWN);
            refuses(SOME, x -> x.late(s, 0, 0), UNKNOWN);
            refuses(SOME, x -> x.plain(s, n("y"), 0), UNKNOWN);
            refuses(SOME, x -> x.constant(s, n("y"), 0, false), UNKNOWN);
            refuses(SOME, x -> x.glue(s, 0), UNKNOWN);
            refuses(SOME, x -> x.thin(s, 2), UNKNOWN);
            tells(SOME, x -> x.moment(s, 0, 0), 0);
        }
        answers(SOME, x -> x.segment(0), 3);
        answers(SOME, x -> x.segment(1), 1);

        says("SEGMENTS 0, 1, .. (6 at most each)");
        Bounds.Maker six = x -> {
            for (int i = 0; i < 6; i++) {
                Bounds.due("segment()", x.segment(1), i);
            }
        };
        refuses(six, x -> x.segment(1), ROOM);
        answers(six, x -> x.segment(0), 0);
        answers(six, x -> x.late(1, 5, 0), 0);
        refuses(six, x -> x.late(1, 6, 0), UNKNOWN);
        refuses(six, x -> x.late(0, 0, 0), UNKNOWN);
        answers(both(six, x -> x.glue(1, 0)), x -> x.segment(1), 5);
        refuses(both(both(six, x -> x.segment(0)), x -> {
            for (int i = 1; i < 6; i++) {
                x.segment(0);
            }
        }), x -> x.segment(0), ROOM);

        says("ROWS 0, 1, .. (16 at most)");
        Bounds.Maker sixteen = x -> {
            x.segment(0);
            x.segment(0);
            for (int i = 0; i < 16; i++) {
                Bounds.due("late()", x.late(0, 0, i), i);
            }
        };
        refuses(sixteen, x -> x.late(0, 0, 16), ROOM);
        answers(sixteen, x -> x.late(0, 1, 16), 0);
        answers(sixteen, x -> x.moment(0, 0, 15), 15);
        answers(sixteen, x -> x.count(2), 16);
        answers(both(sixteen, x -> x.thin(0, 10)), x -> x.late(0, 0, 99), 2);

        says("each with a MOMENT (-1000000000000 to 1000000000000)");
        answers(ONE, x -> x.late(0, 0, MOST) + x.moment(0, 0, 1), MOST + 1);
        answers(ONE, x -> x.late(0, 0, -MOST) + x.moment(0, 0, 1), -MOST + 1);
        long[] beyond = {MOST + 1, -MOST - 1, Long.MAX_VALUE, Long.MIN_VALUE};
        for (long m : beyond) {
            refuses(ONE, x -> x.late(0, 0, m), OUTSIDE);
        }

        says("ROWS of a SERIES ARRIVED by SEGMENTS, then as they are numbered");
        Bounds.Maker mixed = x -> {
            x.segment(0);
            x.segment(0);
            x.plain(0, n("a"), 4);
            Bounds.rows(x, 0, 1, 7, 7);
            Bounds.rows(x, 0, 0, 7, 7, 6);
            Bounds.wholes(x, 0, 0, 1, 2, 3);
            Bounds.wholes(x, 0, 1, 4, 5);
        };
        Bounds.gives(mixed, "use 0; give a;", "3|1|2|4|5");
    }

    // ---- part 1: COLUMNS and NAMES

    private static void names() {
        says("COLUMNS 0, 1, .. (16 at most)");
        Bounds.Maker fifteen = x -> {
            for (int i = 0; i < 15; i++) {
                Bounds.due("plain()", x.plain(i % 2, n("z" + (char) ('a' + i)), i % 8), i);
            }
        };
        answers(fifteen, x -> x.plain(0, n("y"), 0), 15);
        answers(fifteen, x -> x.constant(0, n("y"), 0, false), 15);
        answers(fifteen, x -> x.scaled(n("y"), 0, 0, 0), 15);
        answers(fifteen, x -> x.derived(n("y"), 0, 0, 0), 15);
        Bounds.Maker sixteen = both(fifteen, x -> x.plain(0, n("x"), 0));
        refuses(sixteen, x -> x.plain(0, n("y"), 0), ROOM);
        refuses(sixteen, x -> x.constant(1, n("y"), 0, false), ROOM);
        refuses(sixteen, x -> x.scaled(n("y"), 0, 0, 0), ROOM);
        refuses(sixteen, x -> x.derived(n("y"), 0, 0, 0), ROOM);
        answers(sixteen, x -> x.told(15, 1), 0);
        tells(sixteen, x -> x.told(16, 1), UNKNOWN);
        tells(sixteen, x -> x.told(-1, 1), UNKNOWN);

        says("a NAME: 1 to 6 letters a to z, the lowest bytes of a long, the first letter highest");
        for (String good : new String[] {"a", "z", "az", "za", "abcdef", "zzzzzz"}) {
            answers(SOME, x -> x.plain(0, n(good + (good.equals("a") ? "b" : "")), 0), 5);
            answers(Bounds.NEW, x -> x.plain(0, n(good), 0), 0);
            answers(Bounds.NEW, x -> x.constant(0, n(good), 0, true), 0);
        }
        long[] bad = {0, n("abcdefg"), n("aaaaaaaa"), n("`"), n("{"), n("A"), n("Z"), n("a`"), n("{a"), n("a1"), n("a b"), n("a") << 8,
            n("a") << 16, n("a\0b"), n("a") | 1L << 48, n("abcdef") | 1L << 48, n("a") | 1L << 56, n("abcdef") | (long) 'a' << 56, -1,
            Long.MIN_VALUE, Long.MAX_VALUE, n("a") | 0x80, n("\u00e1")};
        for (long name : bad) {
            refuses(SOME, x -> x.plain(0, name, 0), OUTSIDE);
            refuses(SOME, x -> x.constant(0, name, 0, true), OUTSIDE);
            refuses(SOME, x -> x.scaled(name, 0, 1, 1), OUTSIDE);
            refuses(SOME, x -> x.derived(name, 0, 0, 1), OUTSIDE);
            tells(SOME, x -> x.find(name), NONE);
        }
        Bounds.gives(both(ONE, x -> x.constant(0, n("xy"), 3, false)), "use 0; give xy;", "3");
        Bounds.faulty(both(ONE, x -> x.constant(0, n("xy"), 3, false)), "use 0; give ^yx;", 2);

        says("no two the same");
        for (String taken : new String[] {"a", "k", "s", "d", "b"}) {
            refuses(SOME, x -> x.plain(0, n(taken), 0), STATE);
            refuses(SOME, x -> x.plain(1, n(taken), 0), STATE);
            refuses(SOME, x -> x.constant(1, n(taken), 0, true), STATE);
            refuses(SOME, x -> x.scaled(n(taken), 4, 1, 1), STATE);
            refuses(SOME, x -> x.derived(n(taken), 0, 0, 1), STATE);
        }
        answers(SOME, x -> x.plain(0, n("aa"), 0), 5);

        says("none a WORD of part 3 (OUTSIDE)");
        String words = "use known from to join on near let fill last line where or and not is there missing beyond other unlike group all span "
            + "count time sort down first give moment min max abs floor ceil round sign diff cum quant sum ksum mean var least great median "
            + "slope base impossible";
        for (String word : words.split(" ")) {
            refuses(SOME, x -> x.plain(0, n(word), 0), OUTSIDE);
            refuses(SOME, x -> x.constant(0, n(word), 0, false), OUTSIDE);
            refuses(SOME, x -> x.scaled(n(word), 0, 0, 0), OUTSIDE);
            refuses(SOME, x -> x.derived(n(word), 0, 0, 0), OUTSIDE);
            if (word.length() < 6) {
                answers(SOME, x -> x.plain(0, n(word + "z"), 0), 5);
            }
            if (word.length() > 2 && !words.contains(" " + word.substring(1) + " ")) {
                answers(SOME, x -> x.plain(0, n(word.substring(1, Math.min(7, word.length()))), 0), 5);
            }
        }

        says("SORTS: 0 to 7 PLAIN, of that KIND");
        for (int kind = 0; kind < 8; kind++) {
            int k = kind;
            answers(SOME, x -> x.plain(0, n("y"), k) * 100L + x.told(5, 1), 500 + kind);
        }
        for (int kind : new int[] {-1, 8, 9, 10, Integer.MIN_VALUE, Integer.MAX_VALUE}) {
            refuses(SOME, x -> x.plain(0, n("y"), kind), OUTSIDE);
        }

        says("CONSTANT: v, or v thousandths, not above 1000000000000 in size");
        for (long v : new long[] {MOST, -MOST, 0, 1, -1, 999}) {
            answers(both(SOME, x -> x.constant(0, n("y"), v, false)), x -> x.read(5, 0, 0, 0), v);
            answers(both(SOME, x -> x.constant(0, n("y"), v, true)), x -> x.read(5, 0, 0, 0), d(v / 1000.0));
            answers(both(SOME, x -> x.constant(0, n("y"), v, true)), x -> x.told(5, 4), 1);
            answers(both(SOME, x -> x.constant(0, n("y"), v, false)), x -> x.told(5, 4), 0);
        }
        for (long v : new long[] {MOST + 1, -MOST - 1, Long.MAX_VALUE, Long.MIN_VALUE}) {
            refuses(SOME, x -> x.constant(0, n("y"), v, false), OUTSIDE);
            refuses(SOME, x -> x.constant(0, n("y"), v, true), OUTSIDE);
        }
    }

    // ---- part 1: SCALED and DERIVED

    private static void columnsOverColumns() {
        says("SCALED: another COLUMN, of whose SERIES it is");
        answers(both(SOME, x -> x.scaled(n("y"), 4, 1, 1)), x -> x.told(5, 0), 1);
        answers(both(SOME, x -> x.scaled(n("y"), 3, 1, 1)), x -> x.told(5, 0), 0);
        for (int column : new int[] {-1, 5, 16, Integer.MIN_VALUE, Integer.MAX_VALUE}) {
            refuses(SOME, x -> x.scaled(n("y"), column, 1, 1), UNKNOWN);
            refuses(SOME, x -> x.derived(n("y"), column, 0, 1), UNKNOWN);
            refuses(SOME, x -> x.derived(n("y"), 0, column, 1), UNKNOWN);
        }

        says("DERIVED: by an act 0 +, 1 -, 2 *, 3 /, 4 %");
        for (int act : new int[] {-1, 5, Integer.MIN_VALUE, Integer.MAX_VALUE}) {
            refuses(SOME, x -> x.derived(n("y"), 0, 0, act), OUTSIDE);
        }
        for (int act = 0; act < 5; act++) {
            int by = act;
            answers(SOME, x -> x.derived(n("y"), 0, 0, by), 5);
        }

        says("OUTSIDE: COLUMNS of unlike SERIES");
        refuses(SOME, x -> x.derived(n("y"), 0, 4, 0), OUTSIDE);
        refuses(SOME, x -> x.derived(n("y"), 4, 0, 0), OUTSIDE);
        answers(SOME, x -> x.derived(n("y"), 4, 4, 0), 5);

        says("They READ two PLAIN or CONSTANT ones at most, each as often as it comes: else STATE");
        answers(SOME, x -> x.derived(n("y"), 2, 1, 0), 5);
        answers(SOME, x -> x.derived(n("y"), 0, 0, 0), 5);
        answers(SOME, x -> x.derived(n("y"), 2, 2, 0), 5);
        refuses(SOME, x -> x.derived(n("y"), 3, 0, 0), STATE);
        refuses(SOME, x -> x.derived(n("y"), 0, 3, 0), STATE);
        refuses(SOME, x -> x.derived(n("y"), 3, 1, 0), STATE);
        refuses(SOME, x -> x.derived(n("y"), 3, 3, 0), STATE);
        answers(SOME, x -> x.scaled(n("y"), 3, 1, 1), 5);
        refuses(both(SOME, x -> x.scaled(n("y"), 3, 1, 1)), x -> x.derived(n("z"), 5, 0, 0), STATE);
        answers(both(SOME, x -> x.scaled(n("y"), 3, 1, 1)), x -> x.told(5, 5), 2);
        answers(SOME, x -> x.told(0, 5), 1);
        answers(SOME, x -> x.told(1, 5), 1);
        answers(SOME, x -> x.told(2, 5), 1);
        answers(SOME, x -> x.told(3, 5), 2);

        says("SCALED: the NUMBER as a REAL, times (a / 1000.0), plus (b / 1000.0)");
        int[] factors = {0, 1, -1, 1000, 1500, Integer.MAX_VALUE, Integer.MIN_VALUE};
        long[] wholes = {0, 1, -7, Long.MAX_VALUE, Long.MIN_VALUE, (1L << 53) + 1};
        for (int a : factors) {
            for (int b : factors) {
                for (long v : wholes) {
                    Bounds.Maker scaled = both(ONE, x -> {
                        x.plain(0, n("a"), 5);
                        x.spread(0, v, false);
                        x.scaled(n("s"), 0, a, b);
                    });
                    answers(scaled, x -> x.read(1, 0, 0, 0), d((double) v * (a / 1000.0) + b / 1000.0));
                }
            }
        }
        Bounds.Maker impossible = both(ONE, x -> {
            x.plain(0, n("a"), 7);
            x.spread(0, d(Double.NaN), true);
            x.scaled(n("s"), 0, 0, 0);
            x.plain(0, n("i"), 7);
            x.spread(2, d(Double.POSITIVE_INFINITY), true);
            x.scaled(n("t"), 2, 0, 1);
            x.scaled(n("u"), 2, -1, 1);
        });
        answers(impossible, x -> x.look(1, 0, 0, 0), 4);
        answers(impossible, x -> x.look(3, 0, 0, 0), 4);
        answers(impossible, x -> x.read(3, 0, 0, 0), Bounds.NO_NUMBER);
        answers(impossible, x -> x.read(4, 0, 0, 0), d(Double.NEGATIVE_INFINITY));
    }

    /** longs a 0 and b 1 in SERIES 0, one ROW, and a by an act with b 2. */
    private static Bounds.Maker ofWholes(long a, int act, long b) {
        return both(ONE, x -> {
            x.plain(0, n("a"), 5);
            x.plain(0, n("b"), 5);
            x.derived(n("c"), 0, 1, act);
            x.spread(0, a, false);
            x.spread(1, b, false);
        });
    }

    private static void gives(long a, int act, long b, long want) {
        tells(ofWholes(a, act, b), x -> x.look(2, 0, 0, 0), 0);
        tells(ofWholes(a, act, b), x -> x.read(2, 0, 0, 0), want);
    }

    private static void fails(long a, int act, long b, int finding) {
        tells(ofWholes(a, act, b), x -> x.look(2, 0, 0, 0), finding);
        tells(ofWholes(a, act, b), x -> x.read(2, 0, 0, 0), 0);
    }

    private static void actsOfWholes() {
        long most = Long.MAX_VALUE;
        long least = Long.MIN_VALUE;
        says("what does not fit in 64 bits is OVERFLOW");
        gives(most, 0, 0, most);
        fails(most, 0, 1, -1);
        fails(1, 0, most, -1);
        gives(least, 0, 0, least);
        fails(least, 0, -1, -1);
        gives(most, 0, least, -1);
        gives(most - 5, 0, 5, most);
        gives(least + 5, 0, -5, least);
        gives(least, 1, 0, least);
        fails(least, 1, 1, -1);
        fails(most, 1, -1, -1);
        fails(0, 1, least, -1);
        gives(-1, 1, least, most);
        gives(least, 1, least, 0);
        gives(least + 1, 1, 1, least);
        gives(most - 1, 1, -1, most);
        long half = 1L << 62;
        fails(half, 2, 2, -1);
        gives(half, 2, -2, least);
        gives(-half, 2, 2, least);
        fails(-half, 2, -2, -1);
        fails(least, 2, -1, -1);
        fails(-1, 2, least, -1);
        gives(least, 2, 1, least);
        gives(most, 2, -1, -most);
        gives(0, 2, least, 0);
        gives(least, 2, 0, 0);
        gives(3037000499L, 2, 3037000499L, 9223372030926249001L);
        fails(3037000500L, 2, 3037000500L, -1);
        fails(-3037000500L, 2, 3037000500L, -1);
        fails(most, 2, most, -1);
        fails(least, 2, least, -1);
        fails(1L << 32, 2, 1L << 32, -1);
        fails(least, 3, -1, -1);
        gives(least + 1, 3, -1, most);
        gives(least, 3, 1, least);

        says("/ cut toward 0, % what is left");
        gives(7, 3, 2, 3);
        gives(-7, 3, 2, -3);
        gives(7, 3, -2, -3);
        gives(-7, 3, -2, 3);
        gives(1, 3, 2, 0);
        gives(-1, 3, 2, 0);
        gives(7, 4, 2, 1);
        gives(-7, 4, 2, -1);
        gives(7, 4, -2, 1);
        gives(-7, 4, -2, -1);
        gives(least, 4, -1, 0);
        gives(6, 4, 3, 0);

        says("by 0: ZERO");
        fails(5, 3, 0, -2);
        fails(0, 3, 0, -2);
        fails(5, 4, 0, -2);
        fails(0, 4, 0, -2);
        fails(least, 3, 0, -2);
        gives(0, 3, 5, 0);
        gives(0, 4, -5, 0);
    }

    /** doubles a 0 and b 1 and longs c 2 in SERIES 0; by an act: a with b 3, c with b 4, a with c 5. */
    private static Bounds.Maker ofReals(double a, double b, long c, int act) {
        return both(ONE, x -> {
            x.plain(0, n("a"), 7);
            x.plain(0, n("b"), 7);
            x.plain(0, n("c"), 5);
            x.derived(n("d"), 0, 1, act);
            x.derived(n("e"), 2, 1, act);
            x.derived(n("f"), 0, 2, act);
            x.spread(0, d(a), true);
            x.spread(1, d(b), true);
            x.spread(2, c, false);
        });
    }

    private static double act(double a, int act, double b) {
        return act == 0 ? a + b : act == 1 ? a - b : act == 2 ? a * b : act == 3 ? a / b : a % b;
    }

    private static void isReal(Bounds.Maker maker, int column, double want) {
        answers(maker, x -> x.look(column, 0, 0, 0), Double.isNaN(want) ? 4 : 0);
        answers(maker, x -> x.read(column, 0, 0, 0), d(want));
    }

    private static void actsOfReals() {
        says("REALS are reckoned as doubles, by the language (% too); of a WHOLE and a REAL: both as REALS");
        double[] reals = {0.0, -0.0, 1.5, -2.5, Double.MAX_VALUE, Double.MIN_VALUE, Double.POSITIVE_INFINITY, Double.NEGATIVE_INFINITY, Double.NaN};
        long[] wholes = {0, -3, (1L << 53) + 1, Long.MIN_VALUE};
        for (int act = 0; act < 5; act++) {
            for (double a : reals) {
                for (int i = 0; i < reals.length; i++) {
                    double b = reals[i];
                    long c = wholes[i % wholes.length];
                    Bounds.Maker maker = ofReals(a, b, c, act);
                    isReal(maker, 3, act(a, act, b));
                    isReal(maker, 4, act(c, act, b));
                    isReal(maker, 5, act(a, act, c));
                }
            }
        }
    }

    /** ints a 0 and b 1, each in a SEGMENT of 2 ROWS as told, a + b 2, a / b 3. */
    private static Bounds.Maker absent(int left, int right) {
        return x -> {
            x.segment(0);
            Bounds.rows(x, 0, 0, 1, 2);
            x.plain(0, n("a"), 4);
            x.plain(0, n("b"), 4);
            x.derived(n("c"), 0, 1, 0);
            x.derived(n("d"), 0, 1, 3);
            x.scaled(n("e"), 0, 1, 1);
            arrayOf(x, 0, left);
            arrayOf(x, 1, right);
        };
    }

    /** So that ROW 1 is of a sort. */
    private static void arrayOf(GapHouse x, int column, int sort) {
        if (sort != 1) {
            x.put(column, 0, sort == 3 ? 5 : 4, sort == 2 ? 1 : 2);
        }
    }

    private static void absentCells() {
        says("ABSENT: OTHER (3): the ARRAY is of another KIND than the COLUMN; MISSING (1): there is NOTHING; BEYOND (2): the ARRAY has no such place");
        for (int kind = 0; kind < 8; kind++) {
            for (int other = 0; other < 8; other++) {
                int k = kind;
                int o = other;
                Bounds.Maker maker = both(ONE, x -> {
                    x.plain(0, n("a"), k);
                    x.put(0, 0, o, 1);
                });
                tells(maker, x -> x.look(0, 0, 0, 0), kind == other ? 0 : 3);
                tells(maker, x -> x.read(0, 0, 0, 0), 0);
            }
        }
        for (int sort = 1; sort <= 3; sort++) {
            tells(absent(sort, 0), x -> x.look(0, 0, 1, 0), sort);
            tells(absent(sort, 0), x -> x.read(0, 0, 1, 0), 0);
        }
        tells(absent(2, 0), x -> x.look(0, 0, 0, 0), 0);

        says("(3 ahead of 1, 1 of 2)");
        Bounds.Maker shortOther = both(ONE, x -> {
            x.plain(0, n("a"), 4);
            x.put(0, 0, 5, 0);
        });
        tells(shortOther, x -> x.look(0, 0, 0, 0), 3);
        tells(both(shortOther, x -> x.drop(0, 0)), x -> x.look(0, 0, 0, 0), 1);
        tells(both(shortOther, x -> x.put(0, 0, 4, 0)), x -> x.look(0, 0, 0, 0), 2);

        says("an ARRAY of any KIND and length (0 to 20): places that ROWS have, and more");
        Bounds.Maker full = x -> {
            x.segment(0);
            Bounds.rows(x, 0, 0, new long[16]);
            x.plain(0, n("a"), 4);
            x.put(0, 0, 4, 16);
        };
        tells(full, x -> x.look(0, 0, 15, 0), 0);
        tells(both(full, x -> x.put(0, 0, 4, 15)), x -> x.look(0, 0, 15, 0), 2);
        tells(both(full, x -> x.put(0, 0, 4, 15)), x -> x.look(0, 0, 14, 0), 0);
        tells(both(full, x -> x.put(0, 0, 4, 20)), x -> x.look(0, 0, 15, 0), 0);

        says("Of what is ABSENT the first one's sort comes out (the left one's, else the right one's)");
        for (int left = 0; left <= 3; left++) {
            for (int right = 0; right <= 3; right++) {
                int want = left != 0 ? left : right;
                tells(absent(left, right), x -> x.look(2, 0, 1, 0), want);
                tells(absent(left, right), x -> x.look(3, 0, 1, 0), left + right == 0 ? -2 : want);
                tells(absent(left, right), x -> x.look(4, 0, 1, 0), left);
            }
        }
        Bounds.Maker impossible = both(ONE, x -> {
            x.plain(0, n("a"), 7);
            x.plain(0, n("b"), 4);
            x.spread(0, d(Double.NaN), true);
            x.derived(n("c"), 0, 1, 0);
            x.derived(n("d"), 1, 0, 0);
        });
        tells(impossible, x -> x.look(2, 0, 0, 0), 1);
        tells(impossible, x -> x.look(3, 0, 0, 0), 1);

        says("A REAL that is no number is IMPOSSIBLE (4): that is a NUMBER, too");
        for (long bits : new long[] {Bounds.NO_NUMBER, 0x7ff0000000000001L, 0xfff8000000000000L, -1L, Long.MAX_VALUE}) {
            Bounds.Maker maker = both(ONE, x -> {
                x.plain(0, n("a"), 7);
                x.plain(0, n("b"), 6);
                x.spread(0, bits, true);
                x.spread(1, bits, true);
            });
            for (int column = 0; column < 2; column++) {
                int c = column;
                tells(maker, x -> x.look(c, 0, 0, 0), 4);
                tells(maker, x -> x.read(c, 0, 0, 0), Bounds.NO_NUMBER);
            }
        }
        for (long bits : new long[] {0x7ff0000000000000L, 0xfff0000000000000L, 0x7fefffffffffffffL}) {
            Bounds.Maker maker = both(ONE, x -> {
                x.plain(0, n("a"), 7);
                x.spread(0, bits, true);
            });
            tells(maker, x -> x.look(0, 0, 0, 0), 0);
            tells(maker, x -> x.read(0, 0, 0, 0), bits);
        }

        says("SCALED, DERIVED take theirs as what can be SUMMED: else KIND");
        Bounds.Maker codes = both(ONE, x -> {
            x.plain(0, n("c"), 3);
            x.plain(0, n("m"), 0);
            x.spread(0, 65, false);
            x.spread(1, 1, false);
            x.scaled(n("s"), 0, 1000, 0);
            x.derived(n("d"), 0, 1, 0);
            x.derived(n("e"), 1, 0, 0);
            x.derived(n("f"), 1, 1, 0);
            x.scaled(n("t"), 1, 1000, 0);
            x.scaled(n("u"), 2, 1000, 0);
            x.derived(n("g"), 2, 1, 0);
        });
        tells(codes, x -> x.look(0, 0, 0, 0), 0);
        for (int column : new int[] {2, 3, 4, 7, 8}) {
            tells(codes, x -> x.look(column, 0, 0, 0), -3);
            tells(codes, x -> x.read(column, 0, 0, 0), 0);
            tells(both(codes, x -> x.drop(0, 0)), x -> x.look(column, 0, 0, 0), -3);
        }
        tells(both(codes, x -> x.drop(1, 0)), x -> x.look(4, 0, 0, 0), -3);
        tells(codes, x -> x.read(5, 0, 0, 0), 2);
        tells(codes, x -> x.read(6, 0, 0, 0), d(1.0));
    }

    // ---- KINDS

    private static long asWhole(int kind, long v) {
        switch (kind) {
            case 0:
                return v != 0 ? 1 : 0;
            case 1:
                return (byte) v;
            case 2:
                return (short) v;
            case 3:
                return (char) v;
            case 4:
                return (int) v;
            case 6:
                return d((float) v);
            case 7:
                return d((double) v);
            default:
                return v;
        }
    }

    private static long asReal(int kind, double v) {
        switch (kind) {
            case 0:
                return v != 0.0 ? 1 : 0;
            case 1:
                return (byte) (int) v;
            case 2:
                return (short) (int) v;
            case 3:
                return (char) (int) v;
            case 4:
                return (int) v;
            case 5:
                return (long) v;
            case 6:
                return d((float) v);
            default:
                return d(v);
        }
    }

    /** What v comes to in a COLUMN of a KIND by store(), spread() and correct(). */
    private static void kept(int kind, long v, boolean real, long want) {
        Bounds.Maker maker = both(ONE, x -> {
            x.plain(0, n("a"), kind);
            x.plain(0, n("b"), kind);
            x.plain(0, n("c"), kind);
            x.put(0, 0, kind, 1);
            Bounds.due("store()", x.store(0, 0, 0, v, real), 1);
            Bounds.due("spread()", x.spread(1, v, real), 1);
            Bounds.due("correct()", x.correct(2, 0, 0, v, real, 0), 1);
        });
        for (int column = 0; column < 3; column++) {
            int c = column;
            answers(maker, x -> x.read(c, 0, 0, 0), want);
            answers(maker, x -> x.look(c, 0, 0, 0), real && Double.isNaN(Double.longBitsToDouble(v)) && kind >= 6 ? 4 : 0);
        }
    }

    private static void kinds() {
        says("marks: whether it is not 0; bytes to ints its lowest bits; floats, doubles the nearest");
        long[] wholes = {0, 1, 2, -1, 127, 128, -128, -129, 255, 256, 32767, 32768, -32768, -32769, 65535, 65536, Integer.MAX_VALUE,
            Integer.MAX_VALUE + 1L, Integer.MIN_VALUE, Integer.MIN_VALUE - 1L, 1L << 32, 16777216, 16777217, 16777219, (1L << 53) + 1, (1L << 53) + 3,
            (1L << 60) + (1L << 36) + 1, -(1L << 60) - (1L << 36) - 1, Long.MAX_VALUE, Long.MIN_VALUE};
        for (int kind = 0; kind < 8; kind++) {
            for (long v : wholes) {
                kept(kind, v, false, asWhole(kind, v));
            }
        }
        kept(0, 256, false, 1);
        kept(0, Long.MIN_VALUE, false, 1);
        kept(1, 128, false, -128);
        kept(3, -1, false, 65535);
        kept(3, 65536, false, 0);
        kept(4, 1L << 31, false, Integer.MIN_VALUE);

        says("the double of the bits v (marks: whether it is not 0.0, or no number; others as the language casts; bytes, shorts, codes over int)");
        double floatEdge = Float.MAX_VALUE + Math.ulp(Float.MAX_VALUE) / 2.0;
        double[] reals = {0.0, -0.0, Double.MIN_VALUE, 0.1, 0.9999, -0.9999, 1.5, -1.0, 127.9, 128.0, -128.9, -129.0, 32767.9, 32768.0, 65535.9, 65536.0,
            2147483647.0, 2147483647.9, 2147483648.0, -2147483648.9, -2147483649.0, 4294967296.0, 9.2233720368547748E18, 9.223372036854775807E18,
            -9.223372036854775808E18, -9.3e18, 1e300, -1e300, Double.POSITIVE_INFINITY, Double.NEGATIVE_INFINITY, Double.NaN, Float.MAX_VALUE,
            floatEdge, Math.nextDown(floatEdge), Float.MIN_VALUE / 2.0, Math.nextUp(Float.MIN_VALUE / 2.0), -1e-300, Double.MAX_VALUE,
            16777217.0, 16777219.0, Math.nextUp(16777217.0)};
        for (int kind = 0; kind < 8; kind++) {
            for (double v : reals) {
                kept(kind, d(v), true, asReal(kind, v));
            }
        }
        kept(0, d(-0.0), true, 0);
        kept(0, d(Double.NaN), true, 1);
        kept(0, 0x7ff0000000000001L, true, 1);
        kept(1, d(1e300), true, -1);
        kept(3, d(-1.0), true, 65535);
        kept(5, d(1e300), true, Long.MAX_VALUE);
        kept(5, 0xfff0000000000001L, true, 0);
        kept(6, 0xfff0000000000001L, true, Bounds.NO_NUMBER);
        kept(7, -1L, true, Bounds.NO_NUMBER);

        says("All COLUMNS HOLD; all but marks are in ORDER; all but codes can be SUMMED");
        for (int kind = 0; kind < 8; kind++) {
            int k = kind;
            Bounds.Maker maker = both(SOME, x -> x.plain(0, n("y"), k));
            tells(maker, x -> x.told(5, 2), kind == 0 ? 0 : 1);
            tells(maker, x -> x.told(5, 3), kind == 3 ? 0 : 1);
            tells(maker, x -> x.told(5, 4), kind >= 6 ? 1 : 0);
        }
        for (int column = 1; column <= 3; column++) {
            int c = column;
            tells(SOME, x -> x.told(c, 2), 1);
            tells(SOME, x -> x.told(c, 3), 1);
            tells(SOME, x -> x.told(c, 4), column == 2 ? 1 : 0);
            tells(SOME, x -> x.told(c, 1), column + 7);
        }
        Bounds.Maker over = x -> {
            x.plain(0, n("m"), 0);
            x.plain(0, n("c"), 3);
            x.plain(0, n("r"), 6);
            x.scaled(n("s"), 0, 1, 1);
            x.derived(n("d"), 1, 1, 0);
            x.derived(n("e"), 0, 2, 0);
        };
        for (int column = 3; column < 6; column++) {
            int c = column;
            tells(over, x -> x.told(c, 2), 1);
            tells(over, x -> x.told(c, 3), 1);
            tells(over, x -> x.told(c, 4), column == 4 ? 0 : 1);
        }
    }

    // ---- part 2

    private static void corrections() {
        says("CORRECTIONS (40 at most)");
        Bounds.Maker many = both(SOME, x -> {
            for (int i = 2; i <= 40; i++) {
                Bounds.due("correct()", x.correct(i % 2 == 0 ? 0 : 4, 0, 0, i, false, i), i);
            }
        });
        refuses(many, x -> x.correct(0, 0, 0, 7, false, 99), ROOM);
        refuses(many, x -> x.correct(4, 0, 0, 7, false, 99), ROOM);
        answers(both(many, x -> x.thin(0, 2)), x -> x.correct(0, 0, 0, 7, false, 99), 40);
        answers(both(many, x -> x.undo(0)), x -> x.count(5), 1);

        says("KNOWN from a time (0 to 1000000000000) on");
        answers(SOME, x -> x.correct(0, 0, 0, 7, false, 0), 2);
        answers(SOME, x -> x.correct(0, 0, 0, 7, false, MOST), 2);
        for (long known : new long[] {-1, MOST + 1, Long.MIN_VALUE, Long.MAX_VALUE}) {
            refuses(SOME, x -> x.correct(0, 0, 0, 7, false, known), OUTSIDE);
        }

        says("What is read as KNOWN at k has that of those with such a time at k or before which has the greatest time");
        Bounds.Maker told = both(SOME, x -> {
            x.correct(0, 0, 0, 50, false, 50);
            x.correct(0, 0, 0, 20, false, 20);
            x.correct(0, 0, 0, 90, false, MOST);
            x.correct(0, 0, 0, 10, false, 0);
        });
        long[][] due = {{Long.MIN_VALUE, 1}, {-1, 1}, {0, 10}, {19, 10}, {20, 20}, {21, 20}, {49, 20}, {50, 50}, {51, 50}, {MOST - 1, 50}, {MOST, 90},
            {MOST + 1, 90}, {Long.MAX_VALUE, 90}};
        for (long[] at : due) {
            tells(told, x -> x.read(0, 0, 0, at[0]), at[1]);
            tells(told, x -> x.look(0, 0, 0, at[0]), 0);
        }
        tells(told, x -> x.read(0, 0, 1, 9), 2);
        tells(told, x -> x.read(0, 0, 1, 10), 9);
        tells(told, x -> x.read(3, 0, 0, 20), 27);
        tells(told, x -> x.read(2, 0, 0, 50), d(50 * 1.5 - 0.25));
        Bounds.gives(told, "use 0; known 19; from 5 to 5; give a;", "10");
        Bounds.gives(told, "use 0; known 20; from 5 to 5; give a;", "20");
        Bounds.gives(told, "use 0; known 999999999999; from 5 to 5; give a;", "50");
        Bounds.gives(told, "use 0; from 5 to 5; give a;", "90");
        Bounds.gives(told, "use 0; known 0; from 5 to 5; give a;", "10");

        says("(of like ones the one told last)");
        Bounds.Maker like = both(SOME, x -> {
            x.correct(0, 0, 0, 1, false, 5);
            x.correct(0, 0, 0, 2, false, 5);
            x.correct(0, 0, 0, 3, false, 4);
        });
        tells(like, x -> x.read(0, 0, 0, 5), 2);
        tells(like, x -> x.read(0, 0, 0, 4), 3);
        Bounds.Maker falling = both(ONE, x -> {
            x.plain(0, n("a"), 4);
            x.correct(0, 0, 0, 3, false, 30);
            x.correct(0, 0, 0, 2, false, 20);
            x.correct(0, 0, 0, 1, false, 10);
        });
        for (int time = 1; time <= 4; time++) {
            int k = time * 10;
            tells(falling, x -> x.read(0, 0, 0, k), Math.min(3, k / 10));
        }
        tells(falling, x -> x.look(0, 0, 0, 9), 1);

        says("whatever stands in the ARRAY");
        for (int sort = 0; sort <= 3; sort++) {
            Bounds.Maker maker = both(absent(sort, 0), x -> x.correct(0, 0, 1, 77, false, 5));
            tells(maker, x -> x.look(0, 0, 1, 4), sort);
            tells(maker, x -> x.look(0, 0, 1, 5), 0);
            tells(maker, x -> x.read(0, 0, 1, 5), 77);
        }
        Bounds.Maker none = both(SOME, x -> x.correct(4, 0, 0, d(Double.NaN), true, 5));
        tells(none, x -> x.look(4, 0, 0, 5), 4);
        tells(none, x -> x.read(4, 0, 0, 5), Bounds.NO_NUMBER);
        tells(none, x -> x.read(4, 0, 0, 4), d(1.5));

        says("UNKNOWN: a COLUMN, SEGMENT, ROW that there is not; STATE: not PLAIN");
        for (int column : new int[] {-1, 5, Integer.MAX_VALUE}) {
            refuses(SOME, x -> x.correct(column, 0, 0, 7, false, 0), UNKNOWN);
        }
        for (int segment : new int[] {-1, 3, Integer.MAX_VALUE}) {
            refuses(SOME, x -> x.correct(0, segment, 0, 7, false, 0), UNKNOWN);
        }
        for (int row : new int[] {-1, 3, 16, Integer.MAX_VALUE}) {
            refuses(SOME, x -> x.correct(0, 0, row, 7, false, 0), UNKNOWN);
        }
        refuses(SOME, x -> x.correct(0, 2, 0, 7, false, 0), UNKNOWN);
        refuses(SOME, x -> x.correct(4, 1, 0, 7, false, 0), UNKNOWN);
        answers(SOME, x -> x.correct(0, 1, 1, 7, false, 0), 2);
        for (int column = 1; column <= 3; column++) {
            int c = column;
            refuses(SOME, x -> x.correct(c, 0, 0, 7, false, 0), STATE);
        }
    }

    // ---- promises 10 to 13

    private static void arrays() {
        says("put: a new ARRAY, all 0: 1; -10: n is below 0; OUTSIDE: the KIND, n above 20");
        for (int length : new int[] {0, 1, 19, 20}) {
            for (int kind = 0; kind < 8; kind++) {
                int k = kind;
                Bounds.Maker put = both(SOME, x -> Bounds.due("put()", x.put(0, 0, k, length), 1));
                tells(put, x -> x.array(0, 0, 0), kind);
                tells(put, x -> x.array(0, 0, 1), length);
                tells(put, x -> x.array(0, 1, 1), 1);
            }
        }
        for (int length : new int[] {-1, -2, Integer.MIN_VALUE}) {
            refuses(SOME, x -> x.put(0, 0, 4, length), -10);
            refuses(SOME, x -> x.put(0, 2, 4, length), -10);
            refuses(SOME, x -> x.put(0, 0, 7, length), -10);
        }
        for (int length : new int[] {21, 22, Integer.MAX_VALUE}) {
            refuses(SOME, x -> x.put(0, 0, 4, length), OUTSIDE);
        }
        for (int kind : new int[] {-1, 8, Integer.MIN_VALUE, Integer.MAX_VALUE}) {
            refuses(SOME, x -> x.put(0, 0, kind, 3), OUTSIDE);
        }
        for (int kind = 0; kind < 8; kind++) {
            int k = kind;
            Bounds.Maker again = both(ONE, x -> {
                x.plain(0, n("a"), k);
                x.put(0, 0, k, 20);
                for (int i = 0; i < 20; i++) {
                    x.store(0, 0, i, -1, false);
                }
                x.put(0, 0, k, 20);
                Bounds.rows(x, 0, 0, new long[15]);
            });
            for (int row = 0; row < 16; row++) {
                int r = row;
                answers(again, x -> x.read(0, 0, r, 0), 0);
                answers(again, x -> x.look(0, 0, r, 0), 0);
            }
        }
        for (int column = 1; column <= 3; column++) {
            int c = column;
            refuses(SOME, x -> x.put(c, 0, 4, 3), STATE);
            refuses(SOME, x -> x.store(c, 0, 0, 1, false), STATE);
            refuses(SOME, x -> x.drop(c, 0), STATE);
            refuses(SOME, x -> x.spread(c, 1, false), STATE);
            tells(SOME, x -> x.array(c, 0, 0), STATE);
        }
        int[][] nowhere = {{-1, 0}, {5, 0}, {16, 0}, {0, -1}, {0, 3}, {4, 1}, {Integer.MAX_VALUE, 0}, {0, Integer.MAX_VALUE}, {Integer.MIN_VALUE, 0}};
        for (int[] at : nowhere) {
            refuses(SOME, x -> x.put(at[0], at[1], 4, 3), UNKNOWN);
            refuses(SOME, x -> x.store(at[0], at[1], 0, 1, false), UNKNOWN);
            refuses(SOME, x -> x.drop(at[0], at[1]), UNKNOWN);
            tells(SOME, x -> x.array(at[0], at[1], 0), UNKNOWN);
        }

        says("store: -11: it is NOTHING; -12: there is no such place");
        for (int i : new int[] {-1, 0, 20, Integer.MAX_VALUE}) {
            refuses(SOME, x -> x.store(0, 2, i, 1, false), -11);
            refuses(SOME, x -> x.store(0, 2, i, 1, true), -11);
        }
        for (int i : new int[] {-1, 3, 20, Integer.MIN_VALUE, Integer.MAX_VALUE}) {
            refuses(SOME, x -> x.store(0, 0, i, 1, false), -12);
            refuses(SOME, x -> x.store(0, 0, i, d(1), true), -12);
        }
        refuses(both(SOME, x -> x.put(0, 0, 4, 0)), x -> x.store(0, 0, 0, 1, false), -12);
        answers(SOME, x -> x.store(0, 0, 2, 8, false) + x.read(0, 0, 2, 0), 9);
        answers(SOME, x -> x.store(0, 0, 0, 8, false) + x.read(0, 0, 0, 0), 9);
        Bounds.Maker twenty = both(SOME, x -> x.put(0, 0, 4, 20));
        answers(twenty, x -> x.store(0, 0, 19, 8, false), 1);
        refuses(twenty, x -> x.store(0, 0, 20, 8, false), -12);
        says("store: the ARRAY that stands there, of whatever KIND, takes it as its KIND does");
        Bounds.Maker bytes = both(SOME, x -> {
            x.put(0, 0, 1, 3);
            x.store(0, 0, 0, 300, false);
        });
        tells(bytes, x -> x.look(0, 0, 0, 0), 3);
        tells(bytes, x -> x.array(0, 0, 0), 1);

        says("drop: 1 if an ARRAY did, else 0");
        answers(SOME, x -> x.drop(0, 0) * 10 + x.drop(0, 0), 10);
        answers(both(SOME, x -> x.put(0, 2, 7, 0)), x -> x.drop(0, 2), 1);
        tells(SOME, x -> x.drop(0, 2), 0);
        tells(both(SOME, x -> x.drop(0, 0)), x -> x.array(0, 0, 1), NONE);
        tells(both(SOME, x -> x.drop(0, 0)), x -> x.array(0, 1, 1), 1);

        says("spread: all SEGMENTS that there are get new ARRAYS of the COLUMN's KIND, as long as they have ROWS: how many");
        Bounds.Maker spread = both(SOME, x -> {
            x.put(0, 0, 7, 20);
            Bounds.due("spread()", x.spread(0, 6, false), 3);
        });
        int[] lengths = {3, 2, 0};
        for (int segment = 0; segment < 3; segment++) {
            int s = segment;
            tells(spread, x -> x.array(0, s, 0), 4);
            tells(spread, x -> x.array(0, s, 1), lengths[s]);
        }
        tells(spread, x -> x.read(0, 1, 1, 0), 6);
        tells(spread, x -> x.read(0, 0, 0, 0), 6);
        tells(spread, x -> x.array(4, 0, 1), 1);
        tells(x -> x.plain(0, n("a"), 4), x -> x.spread(0, 6, false), 0);
        tells(x -> {
            x.plain(0, n("a"), 4);
            x.segment(1);
        }, x -> x.spread(0, 6, false), 0);
        Bounds.Maker six = x -> {
            x.plain(0, n("a"), 4);
            for (int i = 0; i < 6; i++) {
                x.segment(0);
            }
            Bounds.rows(x, 0, 5, new long[16]);
        };
        answers(six, x -> x.spread(0, 6, false), 6);
        answers(both(six, x -> x.spread(0, 6, false)), x -> x.array(0, 5, 1), 16);
        answers(both(six, x -> x.spread(0, 6, false)), x -> x.read(0, 5, 15, 0), 6);
        Bounds.Maker sixOfTwo = both(six, x -> {
            x.plain(0, n("b"), 4);
            x.spread(0, 6, false);
        });
        for (int segment = 0; segment < 6; segment++) {
            int s = segment;
            tells(sixOfTwo, x -> x.array(0, s, 0), 4);
            tells(sixOfTwo, x -> x.array(1, s, 0), NONE);
        }
        for (int column : new int[] {-1, 5, 16, Integer.MIN_VALUE, Integer.MAX_VALUE}) {
            refuses(SOME, x -> x.spread(column, 6, false), UNKNOWN);
        }
    }

    // ---- promise 14

    /** SEGMENTS of 2, 3 and 1 ROWS of SERIES 0 and one of 1 of SERIES 1; ints a 0 and longs b 1, NOTHING in them; ints c 2 of SERIES 1. */
    private static final Bounds.Maker APART = x -> {
        x.segment(0);
        x.segment(0);
        x.segment(0);
        x.segment(1);
        x.segment(1);
        Bounds.rows(x, 0, 0, 1, 2);
        Bounds.rows(x, 0, 1, 3, 4, 5);
        Bounds.rows(x, 0, 2, 6);
        Bounds.rows(x, 1, 0, 7);
        x.plain(0, n("a"), 4);
        x.plain(0, n("b"), 5);
        x.plain(1, n("c"), 4);
    };

    private static Bounds.Maker apart(Bounds.Maker then) {
        return both(APART, then);
    }

    private static void glue() {
        says("glue: UNKNOWN (both)");
        for (int segment : new int[] {-1, 2, 3, Integer.MIN_VALUE, Integer.MAX_VALUE}) {
            refuses(APART, x -> x.glue(0, segment), UNKNOWN);
        }
        refuses(APART, x -> x.glue(1, 1), UNKNOWN);
        refuses(Bounds.NEW, x -> x.glue(0, 0), UNKNOWN);
        answers(APART, x -> x.glue(0, 1), 4);
        answers(APART, x -> x.glue(1, 0), 1);

        says("glue: ROOM: above 16 ROWS");
        Bounds.Maker eight = x -> {
            x.segment(0);
            x.segment(0);
            Bounds.rows(x, 0, 0, new long[8]);
            Bounds.rows(x, 0, 1, new long[8]);
        };
        answers(eight, x -> x.glue(0, 0), 16);
        refuses(both(eight, x -> x.late(0, 0, 1)), x -> x.glue(0, 0), ROOM);
        refuses(both(eight, x -> x.late(0, 1, 1)), x -> x.glue(0, 0), ROOM);
        Bounds.Maker sixteenAndNone = x -> {
            x.segment(0);
            x.segment(0);
            x.segment(0);
            Bounds.rows(x, 0, 1, new long[16]);
        };
        answers(sixteenAndNone, x -> x.glue(0, 0), 16);
        answers(sixteenAndNone, x -> x.glue(0, 1), 16);
        answers(x -> {
            x.segment(0);
            x.segment(0);
        }, x -> x.glue(0, 0), 0);
        refuses(both(both(eight, x -> x.late(0, 1, 1)), x -> {
            x.plain(0, n("a"), 4);
            x.put(0, 0, 4, 9);
        }), x -> x.glue(0, 0), ROOM);

        says("NOTHING, if both have NOTHING");
        answers(apart(x -> Bounds.due("glue()", x.glue(0, 0), 5)), x -> x.array(0, 0, 0), NONE);

        says("-11 NOTHING, else -13 another KIND, else -12 not so many");
        refuses(apart(x -> x.put(0, 0, 4, 2)), x -> x.glue(0, 0), -11);
        refuses(apart(x -> x.put(0, 1, 4, 3)), x -> x.glue(0, 0), -11);
        refuses(apart(x -> {
            x.put(0, 0, 5, 2);
            x.put(0, 1, 4, 3);
        }), x -> x.glue(0, 0), -13);
        refuses(apart(x -> {
            x.put(0, 0, 4, 2);
            x.put(0, 1, 5, 3);
        }), x -> x.glue(0, 0), -13);
        refuses(apart(x -> {
            x.put(0, 0, 5, 1);
            x.put(0, 1, 4, 3);
        }), x -> x.glue(0, 0), -13);
        refuses(apart(x -> {
            x.put(0, 0, 4, 1);
            x.put(0, 1, 4, 3);
        }), x -> x.glue(0, 0), -12);
        refuses(apart(x -> {
            x.put(0, 0, 4, 2);
            x.put(0, 1, 4, 2);
        }), x -> x.glue(0, 0), -12);
        answers(apart(x -> {
            x.put(0, 0, 4, 2);
            x.put(0, 1, 4, 3);
        }), x -> x.glue(0, 0), 5);
        answers(apart(x -> {
            x.put(0, 0, 4, 20);
            x.put(0, 1, 4, 20);
        }), x -> x.glue(0, 0) * 100L + x.array(0, 0, 1), 505);

        says("of its first copy, else of its second one");
        refuses(apart(x -> {
            x.put(0, 0, 4, 1);
            x.put(0, 1, 5, 3);
        }), x -> x.glue(0, 0), -12);
        refuses(apart(x -> x.put(0, 0, 4, 1)), x -> x.glue(0, 0), -12);
        refuses(apart(x -> x.put(0, 0, 5, 2)), x -> x.glue(0, 0), -13);
        refuses(apart(x -> {
            x.put(0, 1, 5, 1);
        }), x -> x.glue(0, 0), -11);

        says("at the first COLUMN");
        Bounds.Maker second = apart(x -> {
            x.put(0, 0, 4, 2);
            x.put(0, 1, 4, 2);
            x.put(1, 0, 5, 2);
        });
        refuses(second, x -> x.glue(0, 0), -12);
        refuses(both(second, x -> x.put(0, 1, 4, 3)), x -> x.glue(0, 0), -11);
        refuses(apart(x -> {
            x.put(1, 0, 5, 2);
            x.put(1, 1, 4, 2);
        }), x -> x.glue(0, 0), -13);
        says("nothing is asked of COLUMNS of the other SERIES");
        answers(apart(x -> x.put(2, 0, 4, 1)), x -> x.glue(0, 0), 5);
        refuses(apart(x -> x.put(2, 0, 4, 1)), x -> x.glue(1, 0), -11);

        says("SEGMENTS without ROWS are copied, too: what the machine refuses of no places");
        Bounds.Maker none = x -> {
            x.segment(0);
            x.segment(0);
            x.late(0, 1, 1);
            x.plain(0, n("a"), 4);
            x.put(0, 1, 4, 1);
        };
        refuses(none, x -> x.glue(0, 0), -11);
        refuses(both(none, x -> x.put(0, 0, 5, 0)), x -> x.glue(0, 0), -13);
        answers(both(none, x -> x.put(0, 0, 4, 0)), x -> x.glue(0, 0), 1);
        answers(both(none, x -> x.put(0, 0, 4, 20)), x -> x.glue(0, 0) * 100L + x.array(0, 0, 1), 101);

        glued();
    }

    private static void glued() {
        says("ROWS one behind the other; the first one's first places, as many as it has ROWS, are copied, and then the second one's likewise");
        Bounds.Maker maker = apart(x -> {
            Bounds.wholes(x, 0, 0, 10, 20, 98);
            Bounds.wholes(x, 0, 1, 30, 40, 50, 99);
            Bounds.wholes(x, 1, 2, 60);
            x.correct(0, 0, 1, 21, false, 5);
            x.correct(0, 1, 0, 31, false, 5);
            x.correct(0, 1, 2, 51, false, 5);
            x.correct(0, 2, 0, 61, false, 5);
            x.correct(2, 0, 0, 71, false, 5);
            Bounds.due("glue()", x.glue(0, 0), 5);
        });
        long[] places = {10, 20, 30, 40, 50};
        long[] known = {10, 21, 31, 40, 51};
        for (int row = 0; row < 5; row++) {
            int r = row;
            tells(maker, x -> x.read(0, 0, r, 0), places[r]);
            tells(maker, x -> x.read(0, 0, r, 5), known[r]);
            tells(maker, x -> x.moment(0, 0, r), r + 1);
        }
        tells(maker, x -> x.array(0, 0, 1), 5);
        tells(maker, x -> x.look(0, 0, 5, 0), UNKNOWN);
        says("SEGMENTS behind have numbers less by 1; CORRECTIONS go with their ROWS");
        tells(maker, x -> x.count(0), 2);
        tells(maker, x -> x.count(1), 2);
        tells(maker, x -> x.count(2), 6);
        tells(maker, x -> x.count(5), 5);
        tells(maker, x -> x.moment(0, 1, 0), 6);
        tells(maker, x -> x.read(0, 1, 0, 5), 61);
        tells(maker, x -> x.look(0, 1, 0, 0), 1);
        tells(maker, x -> x.read(1, 1, 0, 0), 60);
        tells(maker, x -> x.array(1, 1, 1), 1);
        tells(maker, x -> x.array(1, 0, 1), NONE);
        tells(maker, x -> x.read(2, 0, 0, 5), 71);
        tells(maker, x -> x.moment(1, 0, 0), 7);
        says("PLAIN COLUMNS have NOTHING in a SEGMENT that comes behind one that was glued away");
        Bounds.Maker added = both(maker, x -> Bounds.due("segment()", x.segment(0), 2));
        tells(added, x -> x.array(1, 2, 0), NONE);
        tells(added, x -> x.moment(0, 2, 0), 0);
        tells(added, x -> x.count(2), 6);
        answers(both(added, x -> x.late(0, 2, 8)), x -> x.look(0, 2, 0, 5), 1);
        gluedBehind();
    }

    private static void gluedBehind() {
        says("glue of SEGMENTS that are not the first: ROWS, ARRAYS, CORRECTIONS of them and of those behind and ahead");
        Bounds.Maker maker = apart(x -> {
            x.segment(0);
            Bounds.rows(x, 0, 3, 8, 9);
            x.plain(0, n("d"), 1);
            x.correct(1, 2, 0, 66, false, 5);
            x.correct(1, 3, 1, 99, false, 5);
            for (int column : new int[] {0, 1, 3}) {
                Bounds.wholes(x, column, 0, 11, 12);
                Bounds.wholes(x, column, 1, 13, 14, 15, 98);
                Bounds.wholes(x, column, 2, 16, 97);
                Bounds.wholes(x, column, 3, 18, 19);
            }
            Bounds.due("glue()", x.glue(0, 1), 4);
        });
        long[][] due = {{11, 12}, {13, 14, 15, 16}, {18, 19}};
        for (int column : new int[] {0, 1, 3}) {
            for (int segment = 0; segment < 3; segment++) {
                int s = segment;
                tells(maker, x -> x.array(column, s, 1), due[s].length);
                for (int row = 0; row < due[s].length; row++) {
                    int r = row;
                    tells(maker, x -> x.read(column, s, r, 0), due[s][r]);
                }
            }
        }
        tells(maker, x -> x.moment(0, 1, 3), 6);
        tells(maker, x -> x.moment(0, 2, 0), 8);
        tells(maker, x -> x.read(1, 1, 3, 5), 66);
        tells(maker, x -> x.read(1, 2, 1, 5), 99);
        says("PLAIN COLUMNS have NOTHING in a SEGMENT that comes where one with ARRAYS was");
        Bounds.Maker added = both(maker, x -> Bounds.due("segment()", x.segment(0), 3));
        for (int column : new int[] {0, 1, 3}) {
            tells(added, x -> x.array(column, 3, 0), NONE);
            tells(added, x -> x.array(column, 2, 1), 2);
        }
        says("glue leaves the other SERIES as it is: ROWS, ARRAYS, CORRECTIONS");
        Bounds.Maker alike = x -> {
            for (int series = 0; series < 2; series++) {
                x.plain(series, n(series == 0 ? "a" : "b"), 4);
                for (int i = 0; i < 3; i++) {
                    x.segment(series);
                    Bounds.rows(x, series, i, 10 * i + series, 10 * i + 5 + series);
                    Bounds.wholes(x, series, i, 100 * i, 100 * i + 1, 100 * i + 2);
                    x.correct(series, i, 1, 100 * i + 50, false, 5);
                }
            }
        };
        for (int series = 0; series < 2; series++) {
            int s = series;
            for (int first = 0; first < 2; first++) {
                int f = first;
                Bounds.Maker one = both(alike, x -> Bounds.due("glue()", x.glue(s, f), 4));
                for (int segment = 0; segment < 3; segment++) {
                    int g = segment;
                    tells(one, x -> x.array(1 - s, g, 1), 3);
                    tells(one, x -> x.array(1 - s, g, 0), 4);
                    tells(one, x -> x.moment(1 - s, g, 1), 10 * g + 5 + 1 - s);
                    tells(one, x -> x.read(1 - s, g, 0, 5), 100 * g);
                    tells(one, x -> x.read(1 - s, g, 1, 4), 100 * g + 1);
                    tells(one, x -> x.read(1 - s, g, 1, 5), 100 * g + 50);
                }
                long[] places = first == 0 ? new long[] {0, 1, 100, 101} : new long[] {100, 101, 200, 201};
                for (int row = 0; row < 4; row++) {
                    int r = row;
                    tells(one, x -> x.read(s, f, r, 4), places[r]);
                    tells(one, x -> x.read(s, f, r, 5), r % 2 == 0 ? places[r] : places[r] + 49);
                }
                tells(one, x -> x.read(s, 1 - f, 1, 5), first == 0 ? 250 : 50);
            }
        }
        says("glue of the last two of 6 leaves the other SERIES as it is");
        Bounds.Maker six = x -> {
            for (int i = 0; i < 6; i++) {
                x.segment(0);
                x.late(0, i, i);
            }
            x.segment(1);
            x.late(1, 0, 77);
            x.plain(0, n("a"), 4);
            x.plain(0, n("b"), 4);
            x.plain(1, n("c"), 4);
            x.spread(0, 5, false);
            x.spread(1, 6, false);
            x.spread(2, 7, false);
            Bounds.due("glue()", x.glue(0, 4), 2);
        };
        tells(six, x -> x.moment(1, 0, 0), 77);
        tells(six, x -> x.moment(0, 4, 1), 5);
        tells(six, x -> x.read(0, 4, 1, 0), 5);
        tells(six, x -> x.read(1, 0, 0, 0), 6);
        tells(six, x -> x.read(2, 0, 0, 0), 7);
        tells(six, x -> x.array(1, 0, 1), 1);
    }

    // ---- promise 15

    private static void thin() {
        says("thin: n 2 to 10");
        for (int n : new int[] {1, 11, 0, -1, Integer.MIN_VALUE, Integer.MAX_VALUE}) {
            refuses(SOME, x -> x.thin(0, n), OUTSIDE);
        }
        answers(SOME, x -> x.thin(0, 2), 2);
        answers(SOME, x -> x.thin(0, 10), 3);
        tells(SOME, x -> x.thin(1, 2), 0);
        tells(Bounds.NEW, x -> x.thin(0, 10), 0);
        Bounds.Maker sixteen = x -> {
            x.segment(0);
            for (int i = 0; i < 16; i++) {
                x.late(0, 0, 100 + i);
            }
        };
        int[] kept = {0, 0, 8, 6, 4, 4, 3, 3, 2, 2, 2};
        for (int n = 2; n <= 10; n++) {
            int by = n;
            answers(sixteen, x -> x.thin(0, by), 16 - kept[by]);
            answers(both(sixteen, x -> x.thin(0, by)), x -> x.count(2), kept[by]);
            answers(both(sixteen, x -> x.thin(0, by)), x -> x.moment(0, 0, kept[by] - 1), 100 + (kept[by] - 1) * by);
            answers(both(sixteen, x -> x.thin(0, by)), x -> x.moment(0, 0, kept[by]), 0);
        }

        says("thin: of a SERIES: the other one stays as it is");
        Bounds.Maker sixEach = x -> {
            for (int i = 0; i < 12; i++) {
                x.segment(i % 2);
                Bounds.rows(x, i % 2, i / 2, 1, 2, 3);
            }
            x.plain(0, n("a"), 4);
            x.plain(1, n("b"), 4);
            x.spread(0, 5, false);
            x.spread(1, 6, false);
        };
        for (int series = 0; series < 2; series++) {
            int s = series;
            answers(sixEach, x -> x.thin(s, 2), 6);
            Bounds.Maker thinned = both(sixEach, x -> x.thin(s, 2));
            for (int segment = 0; segment < 6; segment++) {
                int g = segment;
                answers(thinned, x -> x.array(s, g, 1), 2);
                answers(thinned, x -> x.array(1 - s, g, 1), 3);
                answers(thinned, x -> x.moment(s, g, 1), 3);
                answers(thinned, x -> x.moment(1 - s, g, 2), 3);
            }
        }

        says("in ARRAYS what stands at these places (as far as they reach; those beyond all ROWS go, too)");
        int[][] due = {{0, 0}, {1, 1}, {2, 1}, {3, 1}, {4, 2}, {6, 2}, {7, 3}, {8, 3}, {20, 3}};
        for (int[] of : due) {
            for (int kind : new int[] {4, 1}) {
                Bounds.Maker maker = both(x -> {
                    x.segment(0);
                    Bounds.rows(x, 0, 0, 0, 1, 2, 3, 4, 5, 6, 7);
                    x.plain(0, n("a"), 4);
                    x.put(0, 0, kind, of[0]);
                    for (int i = 0; i < of[0]; i++) {
                        x.store(0, 0, i, 10 + i, false);
                    }
                }, x -> Bounds.due("thin()", x.thin(0, 3), 5));
                tells(maker, x -> x.array(0, 0, 1), of[1]);
                tells(maker, x -> x.array(0, 0, 0), kind);
                for (int row = 0; row < 3; row++) {
                    int r = row;
                    boolean there = row < of[1] && kind == 4;
                    tells(maker, x -> x.look(0, 0, r, 0), there ? 0 : kind != 4 ? 3 : 2);
                    tells(maker, x -> x.read(0, 0, r, 0), there ? 10 + 3 * row : 0);
                }
            }
        }
        Bounds.Maker less = both(SOME, x -> x.put(0, 2, 4, 7));
        answers(both(less, x -> x.thin(0, 2)), x -> x.array(0, 2, 1), 0);
        answers(both(SOME, x -> x.thin(0, 2)), x -> x.array(0, 2, 1), NONE);
        answers(both(SOME, x -> x.thin(0, 2)), x -> x.count(0), 3);

        says("CORRECTIONS of others go");
        Bounds.Maker maker = both(SOME, x -> {
            x.correct(0, 0, 0, 100, false, 0);
            x.correct(0, 0, 2, 102, false, 0);
            x.correct(0, 1, 1, 111, false, 0);
            x.correct(0, 1, 0, 110, false, 0);
            x.correct(4, 0, 0, 400, false, 0);
            x.thin(0, 2);
        });
        tells(maker, x -> x.count(5), 4);
        tells(maker, x -> x.read(0, 0, 0, 0), 100);
        tells(maker, x -> x.read(0, 0, 1, 0), 102);
        tells(maker, x -> x.read(0, 1, 0, 0), 110);
        tells(maker, x -> x.read(4, 0, 0, 0), d(400));
        answers(both(maker, x -> x.late(0, 1, 9)), x -> x.look(0, 1, 1, 0), 2);
        Bounds.Maker other = both(SOME, x -> {
            Bounds.rows(x, 1, 0, 2, 3);
            x.correct(4, 0, 1, 401, false, 0);
        });
        answers(both(other, x -> x.thin(0, 2)), x -> x.read(4, 0, 1, 0), d(401));
        answers(both(other, x -> x.thin(1, 2)), x -> x.count(5), 1);
        answers(both(other, x -> x.thin(1, 2)), x -> x.count(2), 5);
        answers(both(other, x -> x.thin(1, 2)), x -> x.moment(1, 0, 1), 3);
    }

    // ---- promises 1, 17 to 22

    private static void tellings() {
        says("A new object: no SEGMENTS, no COLUMNS, no QUERIES");
        for (int what = 0; what < 10; what++) {
            int w = what;
            tells(Bounds.NEW, x -> x.count(w), 0);
        }
        tells(Bounds.NEW, x -> x.told(0, 0), UNKNOWN);
        tells(Bounds.NEW, x -> x.way(0), UNKNOWN);
        tells(Bounds.NEW, x -> x.run(0), UNKNOWN);
        tells(Bounds.NEW, x -> x.find(n("a")), NONE);
        tells(Bounds.NEW, x -> x.late(0, 0, 0), UNKNOWN);

        says("look: UNKNOWN; (the time: any); read: 0 where look() is not 0 or 4");
        int[][] nowhere = {{-1, 0, 0}, {5, 0, 0}, {0, -1, 0}, {0, 3, 0}, {0, 0, -1}, {0, 0, 3}, {0, 2, 0}, {4, 0, 1}, {Integer.MAX_VALUE, 0, 0},
            {0, Integer.MAX_VALUE, 0}, {0, 0, Integer.MAX_VALUE}, {Integer.MIN_VALUE, 0, 0}, {1, 0, 3}, {2, 0, 3}, {3, 0, 3}};
        for (int[] at : nowhere) {
            tells(SOME, x -> x.look(at[0], at[1], at[2], 0), UNKNOWN);
            tells(SOME, x -> x.read(at[0], at[1], at[2], 0), 0);
        }
        for (long known : new long[] {Long.MIN_VALUE, -MOST - 1, -1, 0, MOST, MOST + 1, Long.MAX_VALUE}) {
            tells(SOME, x -> x.look(0, 0, 0, known), 0);
            tells(SOME, x -> x.read(0, 0, 0, known), 1);
            tells(SOME, x -> x.read(1, 0, 0, known), 7);
        }

        says("array: its KIND (what = 0), its length (1); NONE: NOTHING; OUTSIDE");
        tells(SOME, x -> x.array(0, 0, 0), 4);
        tells(SOME, x -> x.array(0, 0, 1), 3);
        tells(SOME, x -> x.array(0, 2, 0), NONE);
        tells(SOME, x -> x.array(0, 2, 1), NONE);
        for (int what : new int[] {-1, 2, Integer.MIN_VALUE, Integer.MAX_VALUE}) {
            tells(SOME, x -> x.array(0, 0, what), OUTSIDE);
            tells(SOME, x -> x.array(0, 2, what), OUTSIDE);
        }

        says("told: SERIES (what = 0) to how many it READS (5); OUTSIDE");
        for (int what : new int[] {-1, 6, Integer.MIN_VALUE, Integer.MAX_VALUE}) {
            tells(SOME, x -> x.told(0, what), OUTSIDE);
        }
        tells(SOME, x -> x.told(4, 0), 1);
        tells(SOME, x -> x.told(3, 0), 0);

        says("find: the COLUMN of a NAME; NONE");
        String[] names = {"a", "k", "s", "d", "b"};
        for (int i = 0; i < names.length; i++) {
            String name = names[i];
            tells(SOME, x -> x.find(n(name)), i);
            tells(SOME, x -> x.find(n(name) | 1L << 56), NONE);
            tells(SOME, x -> x.find(n(name) << 8), NONE);
            tells(SOME, x -> x.find(n(name + name)), NONE);
        }
        tells(SOME, x -> x.find(n("use")), NONE);
        answers(both(SOME, x -> x.clear()), x -> x.find(n("a")), NONE);

        says("moment: the MOMENT of a ROW");
        tells(SOME, x -> x.moment(0, 0, 0), 5);
        tells(SOME, x -> x.moment(0, 0, 2), 4);
        tells(SOME, x -> x.moment(0, 1, 1), 7);
        tells(SOME, x -> x.moment(1, 0, 0), 1);
    }

    public static void main(String[] args) {
        orderOfCodes();
        series();
        names();
        columnsOverColumns();
        actsOfWholes();
        actsOfReals();
        absentCells();
        kinds();
        corrections();
        arrays();
        glue();
        thin();
        tellings();
        Bounds.close();
    }
}

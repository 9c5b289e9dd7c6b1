/** The boundary cases of the document: part 4 (RUNS, FINDINGS, RESULTS), promises 28 to 33. */
public final class BoundsRunTest {
    private static final int UNKNOWN = Bounds.UNKNOWN, OUTSIDE = Bounds.OUTSIDE, ROOM = Bounds.ROOM, NONE = Bounds.NONE;
    private static final double NAN = Double.NaN;
    private static final double INFINITE = Double.POSITIVE_INFINITY;

    private static long n(String name) {
        return Bounds.n(name);
    }

    private static long d(double v) {
        return Bounds.d(v);
    }

    private static void says(String words) {
        Bounds.says(words);
    }

    private static void gives(Bounds.Maker maker, String text, String want) {
        Bounds.gives(maker, text, want);
    }

    private static String times(int n, String text) {
        return Bounds.times(n, text);
    }

    /** A SEGMENT of SERIES 0 with these MOMENTS. */
    private static Bounds.Maker at(long... moments) {
        return x -> {
            x.segment(0);
            Bounds.rows(x, 0, 0, moments);
        };
    }

    private static Bounds.Maker and(Bounds.Maker first, Bounds.Maker then) {
        return Bounds.both(first, then);
    }

    /** One more COLUMN of longs in SERIES 0, SEGMENT 0. */
    private static Bounds.Maker wholes(Bounds.Maker maker, String name, long... values) {
        return and(maker, x -> Bounds.wholes(x, x.plain(0, n(name), 5), 0, values));
    }

    /** One more COLUMN of doubles in SERIES 0, SEGMENT 0. */
    private static Bounds.Maker reals(Bounds.Maker maker, String name, double... values) {
        return and(maker, x -> Bounds.reals(x, x.plain(0, n(name), 7), 0, values));
    }

    /** One more COLUMN of a KIND in SERIES 0, all 1. */
    private static Bounds.Maker ones(Bounds.Maker maker, String name, int kind) {
        return and(maker, x -> x.spread(x.plain(0, n(name), kind), 1, false));
    }

    /**
     * ROWS at 1 to 5, each in a SEGMENT of its own, with a COLUMN e of doubles: 2.5, MISSING, BEYOND, OTHER, IMPOSSIBLE, and one f of ints: 3, MISSING, BEYOND,
     * OTHER, 4.
     */
    private static final Bounds.Maker SORTS = x -> {
        for (int i = 0; i < 5; i++) {
            x.segment(0);
            x.late(0, i, i + 1);
        }
        x.plain(0, n("e"), 7);
        Bounds.reals(x, 0, 0, 2.5);
        x.put(0, 2, 7, 0);
        x.put(0, 3, 6, 1);
        Bounds.reals(x, 0, 4, NAN);
        x.plain(0, n("f"), 4);
        Bounds.wholes(x, 1, 0, 3);
        x.put(1, 2, 4, 0);
        x.put(1, 3, 5, 1);
        Bounds.wholes(x, 1, 4, 4);
    };

    // ---- the order of work, and FINDINGS

    /** ROWS at 1 2 3: y is 0 at 1, z at 3, o never; p y / y, w z / z, s over w; l the greatest long; c codes, m marks; SERIES 1: b 1, v b / b with 0. */
    private static final Bounds.Maker ZEROS = and(wholes(wholes(wholes(at(1, 2, 3), "y", 0, 1, 1), "z", 1, 1, 0), "o", 1, 1, 1), x -> {
        x.derived(n("p"), 0, 0, 3);
        x.derived(n("w"), 1, 1, 3);
        x.scaled(n("s"), 4, 1000, 0);
        x.plain(0, n("l"), 5);
        x.spread(6, Long.MAX_VALUE, false);
        x.plain(0, n("c"), 3);
        x.spread(7, 65, false);
        x.plain(0, n("m"), 0);
        x.spread(8, 1, false);
        x.segment(1);
        Bounds.rows(x, 1, 0, 1, 2);
        x.plain(1, n("b"), 5);
        Bounds.wholes(x, 9, 0, 1, 0);
        x.derived(n("v"), 9, 9, 3);
    });

    private static void order() {
        says("A RUN does clause by clause, in each ROW by ROW (in order), in that from the left; it ends by the first FINDING that it meets");
        gives(ZEROS, "use 0; let u = 1 ^/ z; let t = 1 % y; give u;", "!2");
        gives(ZEROS, "use 0; let u = 1 / z + 1 ^% y; give u;", "!2");
        gives(ZEROS, "use 0; let u = 1 ^/ y + 1 % y; give u;", "!2");
        gives(ZEROS, "use 0; let u = 1 + 1 ^/ 0 - 1 % 0; give u;", "!2");
        gives(ZEROS, "use 0; let u = l ^+ 1 + 1 / 0; give u;", "!1");
        gives(ZEROS, "use 0; let u = 1 ^/ 0 + (l + 1); give u;", "!2");
        gives(ZEROS, "use 0; let u = 1 * (1 ^/ 0) * (1 % 0); give u;", "!2");
        gives(ZEROS, "use 0; let u = min(1 ^/ 0, l + 1); give u;", "!2");
        gives(ZEROS, "use 0; let u = ^p + 1 / 0; give u;", "!2");
        gives(ZEROS, "use 0; let u = 1 ^/ 0 + p; give u;", "!2");
        gives(ZEROS, "use 0; let u = ^c + 1 / 0; give u;", "!3");
        gives(ZEROS, "use 0; let u = 1 ^/ 0 + c; give u;", "!2");
        gives(ZEROS, "use 0; join 1 on ^w b; let u = 1 / 0; give u;", "!2");
        gives(ZEROS, "use 0; let u = 1 ^/ 0; fill p 1; give u;", "!2");
        gives(ZEROS, "use 0; fill ^p 1; fill w 1; where 1 = 1 / 0; give o;", "!2");
        gives(ZEROS, "use 0; fill ^w 1; fill p 1; give o;", "!2");
        gives(ZEROS, "use 0; fill o 1; where 1 = 1 ^/ 0; sort m; give o;", "!2");
        gives(ZEROS, "use 0; where 1 = 1; sort ^m; give cum c;", "!3");
        gives(ZEROS, "use 0; group ^w; give sum c;", "!2");
        gives(ZEROS, "use 0; sort w, ^p; give cum c;", "!2");
        gives(ZEROS, "use 0; sort ^p, w; give cum c;", "!2");
        gives(ZEROS, "use 0; group w, ^p; give sum c;", "!2");
        gives(ZEROS, "use 0; give o, p, cum ^c;", "!3");
        gives(ZEROS, "use 0; give w, ^p;", "!2");
        gives(ZEROS, "use 0; give ^p, w;", "!2");
        gives(ZEROS, "use 0; from 2 to 3; give p, ^w;", "!2");
        gives(ZEROS, "use 0; span count 1; give sum w, sum ^p;", "!2");
        gives(ZEROS, "use 0; group all; give sum ^w, sum p;", "!2");
        gives(ZEROS, "use 0; from 2 to 2; let u = 1 / z + 1 % y; give u, p, w;", "1 1 1");

        says("1 OVERFLOW, 2 ZERO (at the sign; of a SCALED, DERIVED COLUMN at the NAME that reads it; of diff, cum, sum at that word)");
        for (String exp : new String[] {"l ^+ 1", "-l ^- 2", "l ^* 2", "1 + l ^* 2", "(l ^+ 1)", "abs(l ^+ 1)"}) {
            gives(ZEROS, "use 0; let u = " + exp + "; give u;", "!1");
            gives(ZEROS, "use 0; where " + exp + " = 1; give o;", "!1");
            gives(ZEROS, "use 0; where 1 unlike " + exp + "; give o;", "!1");
        }
        gives(ZEROS, "use 0; let u = o ^/ 0; give u;", "!2");
        gives(ZEROS, "use 0; let u = o ^% 0; give u;", "!2");
        gives(ZEROS, "use 0; let u = o ^/ (1 - 1); give u;", "!2");
        for (String name : new String[] {"w", "s"}) {
            gives(ZEROS, "use 0; let u = ^" + name + "; give u;", "!2");
            gives(ZEROS, "use 0; let u = 1.5 * ^" + name + "; give u;", "!2");
            gives(ZEROS, "use 0; fill ^" + name + " last; give o;", "!2");
            gives(ZEROS, "use 0; where ^" + name + " = 1; give o;", "!2");
            gives(ZEROS, "use 0; where ^" + name + " is there; give o;", "!2");
            gives(ZEROS, "use 0; group ^" + name + "; give count o;", "!2");
            gives(ZEROS, "use 0; sort ^" + name + "; give o;", "!2");
            gives(ZEROS, "use 0; give ^" + name + ";", "!2");
            gives(ZEROS, "use 0; give diff ^" + name + ";", "!2");
            gives(ZEROS, "use 0; give cum ^" + name + ";", "!2");
            gives(ZEROS, "use 0; group all; give count ^" + name + ";", "!2");
            gives(ZEROS, "use 0; group all; give sum ^" + name + ";", "!2");
            gives(ZEROS, "use 0; group all; give quant 5 ^" + name + ";", "!2");
            gives(ZEROS, "use 0; join 1 on ^" + name + " b; give o;", "!2");
            gives(ZEROS, "use 0; from 1 to 2; group all; give count " + name + ";", "2");
        }
        gives(ZEROS, "use 0; give diff ^p;", "!2");
        gives(ZEROS, "use 0; from 1 to 2; give o, ^cum l;", "!1");
        gives(ZEROS, "use 0; let u = l * (1 - 2 * y); give u, ^diff u;", "!1");
        gives(ZEROS, "use 0; group all; give count o, ^sum l;", "!1");
        says("a FINDING that is not met is none");
        gives(ZEROS, "use 0; from 2 to 3; give p;", "1|1");
        gives(ZEROS, "use 0; from 5 to 9; let u = 1 / 0; where p = c + 1; give w;", "");
        gives(ZEROS, "use 0; where o is missing; give p, w;", "");
    }

    private static void rooms() {
        says("4 ROOM (more than 300 ROWS at join)");
        Bounds.Maker twenty = x -> {
            for (int series = 0; series < 2; series++) {
                x.segment(series);
                x.segment(series);
                for (int i = 0; i < 20; i++) {
                    x.late(series, i / 10, i);
                }
                x.constant(series, n(series == 0 ? "a" : "b"), 1, false);
            }
            x.plain(0, n("c"), 4);
            x.plain(1, n("d"), 4);
            x.put(2, 0, 4, 10);
            x.put(2, 1, 4, 10);
            x.put(3, 0, 4, 10);
            x.put(3, 1, 4, 10);
            x.store(2, 0, 0, 1, false);
            x.store(3, 0, 0, 1, false);
            x.derived(n("z"), 3, 3, 3);
        };
        gives(twenty, "use 0; from 0 to 14; join 1 on a b; group all; give count a, count b;", "300 300");
        gives(twenty, "use 0; from 0 to 15; ^join 1 on a b; group all; give count a;", "!4");
        gives(twenty, "use 0; ^join 1 on a b; give a;", "!4");
        Bounds.Maker sevens = x -> {
            for (int i = 0; i < 43; i++) {
                if (i % 16 == 0) {
                    x.segment(0);
                }
                x.late(0, i / 16, i);
            }
            x.segment(1);
            Bounds.rows(x, 1, 0, 1, 2, 3, 4, 5, 6, 7);
            x.constant(0, n("a"), 1, false);
            x.constant(1, n("b"), 1, false);
        };
        gives(sevens, "use 0; from 0 to 41; join 1 on a b; group all; give count a;", "294");
        gives(sevens, "use 0; from 0 to 42; ^join 1 on a b; group all; give count a;", "!4");
        gives(sevens, "use 1; ^join 0 on b a; group all; give count a;", "!4");
        gives(twenty, "use 1; from 0 to 14; join 0 on b a; group all; give count a, count b;", "300 300");
        says("300 ROWS, 300 groups of them, 6 ITEMS each");
        StringBuilder all = new StringBuilder();
        StringBuilder groups = new StringBuilder();
        for (int i = 0; i < 300; i++) {
            all.append(i == 0 ? "" : "|").append(i / 20 + " 1 1 " + (i == 0 ? "#1" : i % 20 == 0 ? "1" : "0") + " " + (i + 1) + " " + i / 20);
        }
        gives(twenty, "use 0; from 0 to 14; join 1 on a b; let u = moment; give moment, a, b, diff u, cum a, u;", all.toString());
        Bounds.Maker numbered = and(twenty, x -> {
            for (int i = 0; i < 20; i++) {
                x.store(3, i / 10, i % 10, i, false);
            }
        });
        for (int i = 0; i < 300; i++) {
            groups.append(i == 0 ? "" : "|").append(i / 20 + " " + i % 20 + " 1 1 " + i / 20 + " " + i % 20);
        }
        says("300 ROWS that are filled");
        Bounds.Maker gaps = and(twenty, x -> {
            x.put(2, 0, 4, 1);
            x.put(3, 0, 4, 1);
            x.store(3, 0, 0, 8, false);
        });
        StringBuilder last = new StringBuilder();
        StringBuilder filled = new StringBuilder();
        StringBuilder line = new StringBuilder();
        for (int i = 0; i < 300; i++) {
            String bar = i == 0 ? "" : "|";
            int used = i / 20;
            int other = i % 20;
            last.append(bar).append("0 ").append(other < 10 ? "8" : "0");
            filled.append(bar).append(used == 0 || used >= 10 ? "0 " : "7 ").append(other == 0 ? "8 " : other < 10 ? "9 " : "0 ").append("1");
            double between = used == 0 || used >= 10 ? 0.0 : 0.0 + (0.0 - 0.0) * (used / 10.0);
            line.append(bar).append(between).append(' ').append(other == 0 ? 8.0 : other < 10 ? 8.0 : 0.0);
        }
        gives(gaps, "use 0; from 0 to 14; join 1 on a b; fill c last; fill d last; give c, d;", last.toString());
        gives(gaps, "use 0; from 0 to 14; join 1 on a b; let u = a; fill c 7; fill d 9; fill u 5; give c, d, u;", filled.toString());
        gives(gaps, "use 0; from 0 to 14; join 1 on a b; fill c line; fill d line; give c, d;", line.toString());
        for (String how : new String[] {"last", "9", "line"}) {
            gives(gaps, "use 0; from 0 to 14; join 1 on a b; fill a " + how + "; fill b " + how + "; fill c " + how + "; group all; give count a, count b, count c;",
                "300 300 300");
        }
        gives(numbered, "use 0; from 0 to 14; join 1 on a b; let u = moment; group u, d; give u, d, count a, sum b, moment, first d;", groups.toString());
        // c is 1, 0, 0 .., d is 1, 1, 0 ..: 2 for the first ROW, 18 for each of the others
        Bounds.Maker sum = and(twenty, x -> x.store(3, 0, 1, 1, false));
        gives(sum, "use 0; from 0 to 16; join 1 on c d; group all; give count a;", "290");
        gives(sum, "use 0; from 0 to 17; ^join 1 on c d; group all; give count a;", "!4");
        says("the first FINDING that it meets, ROW by ROW: B's ahead of the 301st ROW, or behind it");
        gives(twenty, "use 0; from 0 to 15; join 1 on a ^z; give a;", "!2");
        Bounds.Maker late = and(twenty, x -> {
            x.plain(0, n("e"), 4);
            x.spread(5, 1, false);
            x.derived(n("f"), 0, 5, 3);
            x.store(5, 1, 5, 0, false);
        });
        gives(late, "use 0; join 1 on ^f b; give a;", "!2");
        gives(and(late, x -> {
            x.store(5, 1, 5, 1, false);
            x.store(5, 1, 6, 0, false);
        }), "use 0; ^join 1 on f b; give a;", "!4");

        says("100 spans at span");
        gives(and(at(0, 99), x -> x.constant(0, n("a"), 1, false)), "use 0; span time 1; give count a;", "1|" + times(98, "0|") + "1");
        gives(and(at(0, 100), x -> x.constant(0, n("a"), 1, false)), "use 0; ^span time 1; give count a;", "!4");
        gives(and(at(-50, 150), x -> x.constant(0, n("a"), 1, false)), "use 0; ^span time 2; give count a;", "!4");
        gives(and(at(-50, 149), x -> x.constant(0, n("a"), 1, false)), "use 0; span time 2; give moment;",
            String.join("|", java.util.stream.IntStream.range(0, 100).mapToObj(i -> "" + (2 * i - 50)).toArray(String[]::new)));
        gives(and(at(-Bounds.MOST, Bounds.MOST), x -> x.constant(0, n("a"), 1, false)), "use 0; ^span time 1; give count a;", "!4");
        gives(and(at(-Bounds.MOST, Bounds.MOST), x -> x.constant(0, n("a"), 1, false)), "use 0; span time 999999999999; give count a, moment;",
            "1 -1000000000000|0 -1|1 999999999998");
        gives(twenty, "use 0; from 0 to 14; join 1 on a b; span count 3; give count a;", "3" + times(99, "|3"));
        gives(twenty, "use 0; from 0 to 14; join 1 on a b; ^span count 2; give count a;", "!4");
        gives(twenty, "use 0; from 0 to 9; join 1 on a b; span count 2; give count a;", "2" + times(99, "|2"));
        // d is 5, 0, 0 ..: 19 for each of the first five ROWS, 1 for each of the others
        Bounds.Maker hundred = and(twenty, x -> {
            x.store(3, 0, 0, 5, false);
            for (int i = 0; i < 20; i++) {
                x.store(2, i / 10, i % 10, i < 5 ? 0 : 5, false);
            }
        });
        gives(hundred, "use 0; from 0 to 9; join 1 on c d; span count 1; give count a;", "1" + times(99, "|1"));
        gives(hundred, "use 0; from 0 to 10; join 1 on c d; ^span count 1; give count a;", "!4");
        gives(hundred, "use 0; from 0 to 10; join 1 on c d; span count 2; give count a;", times(50, "2|") + "1");
    }

    // ---- use, known, from, join

    private static void rowsOfSeries() {
        says("use: the ROWS of the SERIES, by MOMENTS, then as they ARRIVED");
        Bounds.Maker mixed = and(at(5, 3, 5, 3, 4), x -> {
            x.segment(0);
            Bounds.rows(x, 0, 1, 3, 5, 2);
            x.plain(0, n("a"), 4);
            Bounds.wholes(x, 0, 0, 0, 1, 2, 3, 4);
            Bounds.wholes(x, 0, 1, 5, 6, 7);
        });
        gives(mixed, "use 0; give moment, a;", "2 7|3 1|3 3|3 5|4 4|5 0|5 2|5 6");
        gives(mixed, "use 1; give moment;", "");
        gives(Bounds.NEW, "use 0; give moment;", "");
        gives(x -> x.segment(1), "use 1; give moment;", "");
        Bounds.Maker full = x -> {
            for (int i = 0; i < 96; i++) {
                if (i % 16 == 0) {
                    x.segment(1);
                }
                x.late(1, i / 16, 95 - i);
            }
        };
        gives(full, "use 1; give moment;", String.join("|", java.util.stream.IntStream.range(0, 96).mapToObj(i -> "" + i).toArray(String[]::new)));

        says("from to: those with MOMENTS of these, both included");
        gives(mixed, "use 0; from 3 to 4; give moment;", "3|3|3|4");
        gives(mixed, "use 0; from 2 to 2; give moment;", "2");
        gives(mixed, "use 0; from 5 to 9; give a;", "0|2|6");
        gives(mixed, "use 0; from -9 to 1; give a;", "");
        gives(mixed, "use 0; from 6 to 9; give a;", "");
        gives(at(-Bounds.MOST, -Bounds.MOST + 1, 0, Bounds.MOST - 1, Bounds.MOST), "use 0; from -999999999999 to 999999999999; give moment;",
            "-999999999999|0|999999999999");
        gives(at(-Bounds.MOST, Bounds.MOST), "use 0; give moment;", "-1000000000000|1000000000000");
        gives(at(-3, -2, -1, 0), "use 0; from -2 to -1; give moment;", "-2|-1");

        says("known: all is read as KNOWN at that time (without: as at 1000000000000)");
        Bounds.Maker known = and(wholes(at(1), "a", 1), x -> {
            x.scaled(n("s"), 0, 1000, 0);
            x.correct(0, 0, 0, 2, false, 0);
            x.correct(0, 0, 0, 3, false, 5);
            x.correct(0, 0, 0, 4, false, Bounds.MOST - 1);
        });
        gives(known, "use 0; known 0; give a, s;", "2 2.0");
        Bounds.Maker other = and(known, x -> {
            x.segment(1);
            x.late(1, 0, 1);
            x.plain(1, n("b"), 5);
            x.spread(2, 1, false);
            x.correct(2, 0, 0, 3, false, 7);
        });
        gives(other, "use 0; known 6; join 1 on a b; give a, b;", "");
        gives(other, "use 0; known 7; join 1 on a b; give a, b;", "3 3");
        gives(other, "use 0; known 6; join 1 near 1; give a, b;", "3 1");
        gives(other, "use 0; known 7; join 1 near 1; give a, b;", "3 3");
        gives(other, "use 1; known 4; join 0 near 1; let u = a + b; give u;", "3");
        gives(known, "use 0; known 4; give a, s;", "2 2.0");
        gives(known, "use 0; known 5; give a, s;", "3 3.0");
        gives(known, "use 0; known 999999999998; give a, s;", "3 3.0");
        gives(known, "use 0; known 999999999999; give a, s;", "4 4.0");
        gives(and(known, x -> x.correct(0, 0, 0, 5, false, Bounds.MOST)), "use 0; give a, s;", "5 5.0");
        gives(and(known, x -> x.correct(0, 0, 0, 5, false, Bounds.MOST)), "use 0; known 999999999999; give a;", "4");
    }

    private static void joinOn() {
        says("join on A B: with each ROW each one of the other SERIES (in its order, all of it), of which B is alike to A; ROWS without one go");
        Bounds.Maker two = and(wholes(at(1, 2, 3), "a", 7, 8, 7), x -> {
            x.segment(1);
            x.segment(1);
            Bounds.rows(x, 1, 0, 900, -900, 5);
            Bounds.rows(x, 1, 1, 5, 900);
            x.plain(1, n("b"), 4);
            x.plain(1, n("i"), 4);
            Bounds.wholes(x, 1, 0, 7, 7, 9);
            Bounds.wholes(x, 1, 1, 7, 7);
            Bounds.wholes(x, 2, 0, 0, 1, 2);
            Bounds.wholes(x, 2, 1, 3, 4);
        });
        gives(two, "use 0; join 1 on a b; give moment, a, i;", "1 7 1|1 7 3|1 7 0|1 7 4|3 7 1|3 7 3|3 7 0|3 7 4");
        gives(two, "use 0; from 2 to 2; join 1 on a b; give moment, a, i;", "");
        gives(two, "use 1; join 0 on b a; give moment, i, a;", "-900 1 7|-900 1 7|5 3 7|5 3 7|900 0 7|900 0 7|900 4 7|900 4 7");
        gives(two, "use 1; from 5 to 5; join 0 on b a; where moment = 5; give moment, i, a;", "5 3 7|5 3 7");

        says("(both NUMBERS, neither IMPOSSIBLE)");
        Bounds.Maker sorts = and(SORTS, x -> {
            x.segment(1);
            Bounds.rows(x, 1, 0, 1, 2, 3);
            x.plain(1, n("b"), 7);
            Bounds.reals(x, 2, 0, NAN, 2.5);
        });
        gives(sorts, "use 0; join 1 on e b; give moment, e, b;", "1 2.5 2.5");
        gives(sorts, "use 1; join 0 on b e; give moment, e, b;", "2 2.5 2.5");

        says("Two NUMBERS compare as longs, if both are WHOLES, else as doubles");
        long odd = (1L << 53) + 1;
        Bounds.Maker great = and(wholes(wholes(reals(at(1), "r", 1L << 53), "a", odd), "g", 1L << 53), x -> {
            x.segment(1);
            x.late(1, 0, 1);
            x.plain(1, n("b"), 5);
            x.spread(3, odd, false);
            x.plain(1, n("t"), 7);
            x.spread(4, d(-0.0), true);
            x.plain(0, n("o"), 6);
            x.spread(5, d(0.0), true);
            x.plain(0, n("z"), 1);
            x.spread(6, 0, false);
            x.plain(1, n("i"), 7);
            x.spread(7, d(INFINITE), true);
            x.plain(0, n("j"), 6);
            x.spread(8, d(INFINITE), true);
        });
        gives(great, "use 0; join 1 on a b; give a;", "" + odd);
        gives(great, "use 0; join 1 on g b; give a;", "");
        gives(great, "use 0; join 1 on r b; give a;", "" + odd);
        gives(great, "use 1; join 0 on b r; give a;", "" + odd);
        gives(great, "use 0; join 1 on o t; give o, t;", "0.0 -0.0");
        gives(great, "use 0; join 1 on z t; give z, t;", "0 -0.0");
        gives(great, "use 0; join 1 on j i; give j, i;", "Infinity Infinity");
        gives(great, "use 0; where a = r and r = a and not a = g and a unlike g and not a unlike r and a > g and a <= r; give a;", "" + odd);

        says("A is read first, B only if A is so, then of all its ROWS in order");
        Bounds.Maker bad = and(SORTS, x -> {
            x.segment(1);
            Bounds.rows(x, 1, 0, 1, 2, 3);
            x.plain(1, n("b"), 4);
            Bounds.wholes(x, 2, 0, 3, 0, 3);
            x.derived(n("q"), 2, 2, 3);
        });
        gives(bad, "use 0; from 2 to 4; join 1 on f q; give f;", "");
        gives(bad, "use 0; from 5 to 5; join 1 on e q; give f;", "");
        gives(bad, "use 0; from 1 to 1; join 1 on f ^q; give f;", "!2");
        gives(bad, "use 0; from 2 to 5; join 1 on f ^q; give f;", "!2");
        Bounds.Maker first = and(bad, x -> {
            x.store(2, 0, 0, 0, false);
            x.store(2, 0, 1, 3, false);
        });
        gives(first, "use 0; from 2 to 4; join 1 on f q; give f;", "");
        gives(first, "use 0; from 5 to 5; join 1 on e q; give f;", "");
        gives(first, "use 0; from 2 to 4; join 1 on f b; give f;", "");
        gives(first, "use 0; from 5 to 5; join 1 on e b; give f;", "");
        gives(bad, "use 1; join 0 on ^q f; give f;", "!2");
        gives(bad, "use 1; from 1 to 1; join 0 on q f; give f;", "");
        says("nothing is wanted of A and B: codes and marks are joined, too");
        Bounds.Maker codes = and(ones(ones(at(1), "c", 3), "m", 0), x -> {
            x.segment(1);
            x.late(1, 0, 1);
            x.plain(1, n("k"), 3);
            x.spread(2, 1, false);
        });
        gives(codes, "use 0; join 1 on c k; give c, k;", "1 1");
        gives(codes, "use 0; join 1 on m k; give m, k;", "1 1");
        gives(codes, "use 1; join 0 on k m; give m, k;", "1 1");
    }

    private static void joinNear() {
        says("near n: with the one with the greatest MOMENT not above its own, if it is n less at most (of like MOMENTS the last that ARRIVED)");
        Bounds.Maker two = and(at(9, 10, 11, 19, 20, 21, 25, 26), x -> {
            x.segment(1);
            x.segment(1);
            Bounds.rows(x, 1, 0, 20, 10, 10);
            Bounds.rows(x, 1, 1, 20, 10);
            x.plain(1, n("b"), 4);
            Bounds.wholes(x, 0, 0, 0, 1, 2);
            Bounds.wholes(x, 0, 1, 3, 4);
        });
        gives(two, "use 0; join 1 near 5; give moment, b;", "9 #1|10 4|11 4|19 #1|20 3|21 3|25 3|26 #1");
        gives(two, "use 0; join 1 near 6; give moment, b;", "9 #1|10 4|11 4|19 #1|20 3|21 3|25 3|26 3");
        gives(two, "use 0; join 1 near 8; give moment, b;", "9 #1|10 4|11 4|19 #1|20 3|21 3|25 3|26 3");
        gives(two, "use 0; join 1 near 9; give moment, b;", "9 #1|10 4|11 4|19 4|20 3|21 3|25 3|26 3");
        gives(two, "use 0; join 1 near 1; give moment, b;", "9 #1|10 4|11 4|19 #1|20 3|21 3|25 #1|26 #1");
        gives(two, "use 1; join 0 near 1; give moment, b;", "10 1|10 2|10 4|20 0|20 3");
        Bounds.Maker far = and(at(0, Bounds.MOST - 1, Bounds.MOST), x -> {
            x.segment(1);
            x.late(1, 0, 0);
            x.constant(1, n("k"), 7, false);
        });
        gives(far, "use 0; join 1 near 999999999999; give k;", "7|7|#1");
        gives(and(at(Bounds.MOST), x -> {
            x.segment(1);
            x.late(1, 0, -Bounds.MOST);
            x.constant(1, n("k"), 7, false);
        }), "use 0; join 1 near 999999999999; give k;", "#1");

        says("without one: its COLUMNS are MISSING there");
        Bounds.Maker all = and(at(5), x -> {
            x.segment(1);
            x.late(1, 0, 6);
            x.plain(1, n("a"), 4);
            x.spread(0, 1, false);
            x.constant(1, n("k"), 7, true);
            x.scaled(n("s"), 0, 1000, 0);
            x.derived(n("d"), 0, 0, 3);
            x.plain(1, n("o"), 4);
            x.put(4, 0, 5, 1);
            x.plain(1, n("c"), 3);
            x.scaled(n("t"), 5, 1000, 0);
        });
        gives(all, "use 0; join 1 near 5; give a, k, s, d, o, t;", "#1 #1 #1 #1 #1 #1");
        gives(all, "use 0; join 1 near 5; let u = k + 1; fill k last; fill a 3; where d is missing; give u, k, a;", "#1 #1 3");
        gives(all, "use 0; join 1 near 5; let u = 1 + ^c; give u;", "!3");
        gives(Bounds.both(all, x -> x.late(0, 0, 6)), "use 0; join 1 near 5; give moment, a, k, s, o;", "5 #1 #1 #1 #1|6 1 0.007 1.0 #3");
        gives(Bounds.both(all, x -> x.late(0, 0, 6)), "use 0; join 1 near 5; give moment, ^t;", "!3");
        gives(and(at(5), x -> x.constant(1, n("k"), 7, true)), "use 0; join 1 near 5; give k;", "#1");
        gives(and(at(5), x -> {
            x.constant(0, n("j"), 7, false);
            x.constant(1, n("k"), 7, false);
        }), "use 0; join 1 on j k; give j;", "");
    }

    // ---- let

    private static String real(double v) {
        return Double.isNaN(v) ? "#4" : "" + v;
    }

    private static void lets() {
        Bounds.Maker least = wholes(wholes(wholes(at(1), "a", Long.MIN_VALUE), "b", Long.MIN_VALUE + 1), "g", Long.MAX_VALUE);
        says("- and abs of the least WHOLE are OVERFLOW");
        gives(least, "use 0; let u = ^-a; give u;", "!1");
        gives(least, "use 0; let u = ^abs(a); give u;", "!1");
        gives(least, "use 0; let u = -b; let v = abs(b); let w = -g; let x = abs(g); give u, v, w, x;",
            "9223372036854775807 9223372036854775807 -9223372036854775807 9223372036854775807");
        gives(least, "use 0; let u = 1 + ^-(a); give u;", "!1");
        gives(least, "use 0; let u = - ^-a; give u;", "!1");
        gives(least, "use 0; let u = - -0; let v = -0; let w = abs(0); let x = abs(-5); give u, v, w, x;", "0 0 0 5");

        says("what does not fit in 64 bits is OVERFLOW; by 0: ZERO");
        gives(least, "use 0; let u = g + 0; let v = a - 0; let w = a / 1; let x = a % -1; give u, v, w, x;",
            "9223372036854775807 -9223372036854775808 -9223372036854775808 0");
        gives(least, "use 0; let u = g ^+ 1; give u;", "!1");
        gives(least, "use 0; let u = a ^- 1; give u;", "!1");
        gives(least, "use 0; let u = 0 ^- a; give u;", "!1");
        gives(least, "use 0; let u = a ^* -1; give u;", "!1");
        gives(least, "use 0; let u = a ^/ -1; give u;", "!1");
        gives(least, "use 0; let u = a ^/ 0; give u;", "!2");
        gives(least, "use 0; let u = a ^% 0; give u;", "!2");
        gives(least, "use 0; let u = 0 ^/ 0; give u;", "!2");
        gives(least, "use 0; let u = a / 0.0; let v = a % 0.0; let w = 0 / 0.0; let x = 1.0 / 0; give u, v, w, x;", "-Infinity #4 #4 Infinity");

        says("floor, ceil, round: of a REAL a REAL, a WHOLE stays as it is; sign: -1, 0, 1 (of a REAL as a REAL; 0.0, -0.0, IMPOSSIBLE as they are)");
        double[] reals = {0.0, -0.0, 0.5, -0.5, 1.5, -1.5, 2.5, -2.5, 0.49999999999999994, 0.9999999999999999, -0.1, 1.0, -1.0, 3.0, 4503599627370495.5,
            4503599627370496.0, 4503599627370497.0, 9007199254740993.0, -4503599627370495.5, 1e300, -1e300, Double.MIN_VALUE, -Double.MIN_VALUE,
            Double.MAX_VALUE, INFINITE, -INFINITE, NAN};
        for (double v : reals) {
            Bounds.Maker maker = reals(at(1), "r", v);
            gives(maker, "use 0; let u = floor(r); let v = ceil(r); let w = round(r); let x = sign(r); give u, v, w, x;",
                real(Math.floor(v)) + " " + real(Math.ceil(v)) + " " + real(Math.rint(v)) + " " + real(Math.signum(v)));
            gives(maker, "use 0; let u = abs(r); let v = -r; give u, v;", real(Math.abs(v)) + " " + real(-v));
        }
        gives(least, "use 0; let u = floor(a); let v = ceil(a); let w = round(g); give u, v, w;", Long.MIN_VALUE + " " + Long.MIN_VALUE + " " + Long.MAX_VALUE);
        gives(least, "use 0; let u = sign(a); let v = sign(g); let w = sign(0); let x = sign(-1); give u, v, w, x;", "-1 1 0 -1");

        says("min, max: two WHOLES as longs; else as doubles (IMPOSSIBLE, if one is; -0.0 below 0.0)");
        gives(least, "use 0; let u = min(a, b); let v = max(a, b); let w = min(g, g - 1); let x = max(g - 1, g); give u, v, w, x;",
            Long.MIN_VALUE + " " + (Long.MIN_VALUE + 1) + " " + (Long.MAX_VALUE - 1) + " " + Long.MAX_VALUE);
        gives(least, "use 0; let u = max(g, 1.0); let v = min(a, 1.0); give u, v;", (double) Long.MAX_VALUE + " " + (double) Long.MIN_VALUE);
        for (double v : reals) {
            for (double w : new double[] {0.0, -0.0, 1.0, INFINITE, NAN}) {
                gives(reals(reals(at(1), "r", v), "s", w), "use 0; let u = min(r, s); let v = max(r, s); let w = min(s, r); let x = max(0, r); give u, v, w, x;",
                    real(Math.min(v, w)) + " " + real(Math.max(v, w)) + " " + real(Math.min(v, w)) + " " + real(Math.max(0.0, v)));
            }
        }

        says("(What is ABSENT comes out of all these as of a sign.)");
        String rowsOfF = "3|#1|#2|#3|4";
        gives(SORTS, "use 0; let u = f; give u;", rowsOfF);
        for (String fun : new String[] {"abs", "floor", "ceil", "round", "- -"}) {
            gives(SORTS, "use 0; let u = " + fun + "(f); give u;", rowsOfF);
        }
        gives(SORTS, "use 0; let u = sign(f); let v = -f; give u, v;", "1 -3|#1 #1|#2 #2|#3 #3|1 -4");
        gives(SORTS, "use 0; let u = min(f, 9); let v = max(0, f); give u, v;", "3 3|#1 #1|#2 #2|#3 #3|4 4");
        gives(SORTS, "use 0; let u = f / f; let v = 0 * f; give u, v;", "1 0|#1 #1|#2 #2|#3 #3|1 0");
        gives(SORTS, "use 0; from 2 to 4; let u = f / 0; let v = e + f; let w = f % 0; give u, v, w;", "#1 #1 #1|#2 #2 #2|#3 #3 #3");
        gives(SORTS, "use 0; from 5 to 5; let u = e + f; let v = min(e, f); let w = max(f, e); let x = e * 0; give u, v, w, x;", "#4 #4 #4 #4");
        Bounds.Maker unlike = and(at(1, 2), x -> {
            x.plain(0, n("p"), 4);
            x.plain(0, n("q"), 4);
            x.plain(0, n("r"), 7);
            x.put(1, 0, 4, 0);
            x.spread(2, d(NAN), true);
        });
        gives(unlike, "use 0; from 1 to 1; let u = p + q; let v = q + p; let w = min(p, q); let x = max(q, p); give u, v, w, x;", "#1 #2 #1 #2");
        gives(unlike, "use 0; from 1 to 1; let u = r + q; let v = p + r; let w = min(r, p); let x = max(q, r); give u, v, w, x;", "#2 #1 #1 #2");

        says("let: the EXP of each ROW; (What a query makes by let is all three, whatever it is made of.)");
        Bounds.Maker kinds = ones(ones(at(1), "c", 3), "m", 0);
        gives(kinds, "use 0; let u = c; let v = m; let w = u + v; where v < 2 and u > 0; sort v, u; give u, v, w, cum u;", "1 1 2 1");
        gives(kinds, "use 0; let u = c; let v = m; group all; give sum u, least v, median v, mean u, slope u;", "1 1 1.0 1.0 #4");
        gives(kinds, "use 0; let u = (c); let v = ((m)); give u, v;", "1 1");
        says("a let is read like a COLUMN: by lets behind it, in where, sort, group, fill, ITEMS");
        Bounds.Maker three = wholes(at(1, 2, 3), "a", 2, -3, 1);
        gives(three, "use 0; let u = a / 2.0; let v = u + 1; let w = u * v; let x = min(u, v); give u, v, w, x;", "1.0 2.0 2.0 1.0|-1.5 -0.5 0.75 -1.5|0.5 1.5 0.75 0.5");
        gives(three, "use 0; let u = a / 2.0; where u < 0.75; sort u; give u, diff u, cum u;", "-1.5 #1 -1.5|0.5 2.0 -1.0");
        gives(three, "use 0; let u = a / 2.0; sort u; give u;", "-1.5|0.5|1.0");
        gives(three, "use 0; let u = -a; let v = u - 0.5; sort u; give u, v;", "-2 -2.5|-1 -1.5|3 2.5");
        gives(three, "use 0; let u = a / 2.0; let v = sign(a); group v; give v, sum v;", "1 2|-1 -1");
        gives(three, "use 0; let u = a / 2.0; group all; give sum u, mean u, least u, great u, median u, ksum u;", "0.0 0.0 -1.5 1.0 0.5 0.0");
        gives(three, "use 0; let u = a / 2.0; let v = a; group all; give sum v, least v, slope u, base u, quant 100 v, var u;", "0 -3 -0.25 0.25 2 1.1666666666666667");
    }

    private static void kindsOfLets() {
        says("a NAME that stands there, in ( ) or not, has to be one that can be SUMMED (asked as it is read; ABSENT or not)");
        Bounds.Maker kinds = ones(ones(at(1), "c", 3), "m", 0);
        Bounds.Maker absent = and(kinds, x -> x.drop(0, 0));
        String[] wants = {"^c + 1", "1 + ^c", "^c - 1", "1 - ^c", "^c * 1", "1 * ^c", "^c / 1", "1 / ^c", "^c % 1", "1 % ^c", "-^c", "abs(^c)", "floor(^c)", "ceil(^c)",
            "round(^c)", "sign(^c)", "min(^c, 1)", "min(1, ^c)", "max(^c, 1)", "max(1, ^c)", "(^c) + 1", "1 + ((^c))", "-(^c)", "abs((^c))", "max((^c), 1)",
            "min(1, (^c))", "1.5 * ^c", "1 + 2 * ^c", "^c + c", "1 / 1 + ^c"};
        for (String exp : wants) {
            gives(kinds, "use 0; let u = " + exp + "; give u;", "!3");
            gives(absent, "use 0; let u = " + exp + "; give u;", "!3");
            gives(kinds, "use 0; where " + exp + " = 1; give m;", "!3");
            gives(absent, "use 0; where 1 unlike " + exp + "; give m;", "!3");
            gives(kinds, "use 0; from 2 to 9; let u = " + exp.replace("^", "") + "; give u;", "");
            gives(kinds, "use 0; let u = " + exp.replace("^c", "m").replace(" c", " m") + "; where u is there; give m;", "1");
        }
        gives(kinds, "use 0; fill c 5; where ^c + 1 = 2; give m;", "!3");
        gives(absent, "use 0; fill c 5; where ^c + 1 = 2; give m;", "!3");
        gives(kinds, "use 0; let u = ^c + c; give u;", "!3");
        gives(kinds, "use 0; where 1 = 1 or c + 1 = 2; give m;", "1");
        gives(kinds, "use 0; where c = 1 and c <= 1 and c unlike 2 and 1 = (c); give c;", "1");
        gives(kinds, "use 0; let u = m + m; give u;", "2");
    }

    // ---- fill

    private static void fills() {
        says("fill: CELLS of NAME that are ABSENT become: last: what the nearest ROW ahead that holds a NUMBER holds; without such ROWS they stay");
        gives(SORTS, "use 0; fill e last; fill f last; give e, f;", "2.5 3|2.5 3|2.5 3|2.5 3|#4 4");
        gives(SORTS, "use 0; from 2 to 5; fill e last; fill f last; give e, f;", "#1 #1|#2 #2|#3 #3|#4 4");
        gives(SORTS, "use 0; fill e 0.5; fill f -7; give e, f;", "2.5 3|0.5 -7|0.5 -7|0.5 -7|#4 4");
        gives(SORTS, "use 0; fill e - 7; give e;", "2.5|-7.0|-7.0|-7.0|#4");
        gives(SORTS, "use 0; fill e -1.5; give e;", "2.5|-1.5|-1.5|-1.5|#4");
        gives(SORTS, "use 0; fill e - 0.0; give e;", "2.5|-0.0|-0.0|-0.0|#4");
        gives(SORTS, "use 0; fill e - 0; fill f -0; give e, f;", "2.5 3|0.0 0|0.0 0|0.0 0|#4 4");
        gives(SORTS, "use 0; fill e 999999999999; fill f -999999999999; give e, f;",
            "2.5 3|9.99999999999E11 -999999999999|9.99999999999E11 -999999999999|9.99999999999E11 -999999999999|#4 4");
        says("(IMPOSSIBLE ones are no NUMBERS here; those filled are not looked at.)");
        Bounds.Maker holes = and(at(0, 10, 20, 30, 40, 50), x -> {
            x.plain(0, n("r"), 7);
            x.correct(0, 0, 0, d(1), true, 0);
            x.correct(0, 0, 2, d(NAN), true, 0);
            x.correct(0, 0, 4, d(9), true, 0);
        });
        gives(holes, "use 0; fill r last; give r;", "1.0|1.0|#4|1.0|9.0|9.0");
        gives(holes, "use 0; fill r line; give r;", "1.0|3.0|#4|7.0|9.0|#1");
        gives(holes, "use 0; from 10 to 50; fill r line; give r;", "#1|#4|#1|9.0|#1");
        gives(holes, "use 0; from 0 to 30; fill r line; give r;", "1.0|#1|#4|#1");
        gives(holes, "use 0; from 0 to 30; fill r last; fill r line; give r;", "1.0|1.0|#4|1.0");
        gives(holes, "use 0; fill r line; fill r last; give r;", "1.0|3.0|#4|7.0|9.0|9.0");
        gives(holes, "use 0; fill r line; fill r 5; fill r 6; give r;", "1.0|3.0|#4|7.0|9.0|5.0");
        says("line: the nearest ROWS, of gap after gap; what is filled is read so from then on");
        Bounds.Maker gaps = and(at(0, 10, 20, 30, 40, 50, 60), x -> {
            x.constant(0, n("k"), 5, false);
            x.plain(0, n("a"), 4);
            x.correct(1, 0, 1, -4, false, 0);
            x.correct(1, 0, 3, 4, false, 0);
            x.correct(1, 0, 5, -1, false, 0);
        });
        gives(gaps, "use 0; fill a line; give a;", "#1|-4.0|0.0|4.0|1.5|-1.0|#1");
        gives(gaps, "use 0; fill k last; fill a line; give a, k;", "#1 5|-4.0 5|0.0 5|4.0 5|1.5 5|-1.0 5|#1 5");
        gives(gaps, "use 0; let u = a; fill u line; fill a last; give u, a;", "#1 #1|-4.0 -4|0.0 -4|4.0 4|1.5 4|-1.0 -1|#1 -1");
        gives(gaps, "use 0; fill a line; where a > -1.5 and a <= 1.5; give a;", "0.0|1.5|-1.0");
        gives(gaps, "use 0; fill a line; sort a; give a;", "-4.0|-1.0|0.0|1.5|4.0|#1|#1");
        gives(gaps, "use 0; fill a line; group all; give sum a, mean a, least a, great a, median a, count a;", "0.5 0.1 -4.0 4.0 0.0 5");
        gives(gaps, "use 0; fill a line; give diff a, cum a;", "#1 #1|#1 -4.0|4.0 -4.0|4.0 0.0|-2.5 1.5|-2.5 0.5|#1 #1");
        gives(gaps, "use 0; fill a line; fill a line; fill a 2; give a;", "2.0|-4.0|0.0|4.0|1.5|-1.0|2.0");

        says("line: v + (w - v) * ((t - m) / (n - m)), all as REALS; v where m is n");
        long[][] moments = {{0, 1, 3}, {-5, 0, 2}, {-Bounds.MOST, 7, Bounds.MOST}, {1, 1, 2}, {1, 2, 2}, {1, 1, 1}, {0, 333, 1000}};
        long[][] values = {{0, 1}, {7, -7}, {(1L << 53) + 1, 0}, {Long.MAX_VALUE, Long.MIN_VALUE}, {5, 5}};
        for (long[] m : moments) {
            for (long[] v : values) {
                Bounds.Maker maker = and(at(m), x -> {
                    x.plain(0, n("a"), 5);
                    x.correct(0, 0, 0, v[0], false, 0);
                    x.correct(0, 0, 2, v[1], false, 0);
                });
                double a = v[0];
                double b = v[1];
                double between = m[0] == m[2] ? a : a + (b - a) * (((double) m[1] - (double) m[0]) / ((double) m[2] - (double) m[0]));
                gives(maker, "use 0; fill a line; give a;", a + "|" + between + "|" + b);
            }
        }
        Bounds.Maker infinite = and(at(0, 1, 2), x -> {
            x.plain(0, n("r"), 7);
            x.correct(0, 0, 0, d(INFINITE), true, 0);
            x.correct(0, 0, 2, d(INFINITE), true, 0);
        });
        gives(infinite, "use 0; fill r line; give r;", "Infinity|#4|Infinity");

        says("By line all WHOLES of NAME become REALS");
        gives(SORTS, "use 0; fill f line; give f;", "3.0|3.25|3.5|3.75|4.0");
        gives(wholes(at(1, 2), "a", (1L << 53) + 1, 5), "use 0; fill a line; give a;", "9.007199254740992E15|5.0");
        gives(SORTS, "use 0; from 2 to 4; fill f line; give f;", "#1|#2|#3");

        says("(nothing is wanted of NAME; COLUMNS over it stay as they are)");
        Bounds.Maker over = and(at(1, 2), x -> {
            x.plain(0, n("c"), 3);
            x.plain(0, n("m"), 0);
            x.plain(0, n("a"), 4);
            x.scaled(n("s"), 2, 1000, 0);
            x.derived(n("d"), 2, 2, 0);
            for (int column = 0; column < 3; column++) {
                x.put(column, 0, x.told(column, 1), 1);
                x.store(column, 0, 0, 1, false);
            }
        });
        gives(over, "use 0; fill c last; fill m last; fill a last; give c, m, a, s, d;", "1 1 1 1.0 2|1 1 1 #2 #2");
        gives(over, "use 0; fill c 70000; fill m 5; fill a 300000000000; give c, m, a, d;", "1 1 1 2|70000 5 300000000000 #2");
        gives(over, "use 0; fill c line; fill m line; give c, m;", "1.0 1.0|#2 #2");
        gives(over, "use 0; let u = a; let v = s; fill a last; fill s last; give u, a, v, s;", "1 1 1.0 1.0|#2 1 #2 1.0");
        gives(over, "use 0; fill s last; fill d 9; give s, d, a;", "1.0 2 1|1.0 9 #2");
        gives(over, "use 0; let u = a; fill u last; give u, a;", "1 1|1 #2");
        gives(over, "use 0; fill m 1; sort ^m; give a;", "!3");
        says("in the order of the ROWS, those of join, too");
        Bounds.Maker joined = and(at(1, 2), x -> {
            x.constant(0, n("k"), 1, false);
            x.segment(1);
            Bounds.rows(x, 1, 0, 1, 2);
            x.constant(1, n("j"), 1, false);
            x.plain(1, n("b"), 4);
            x.put(2, 0, 4, 1);
        });
        gives(joined, "use 0; join 1 on k j; fill b last; give moment, b;", "1 0|1 0|2 0|2 0");
        gives(joined, "use 0; join 1 on k j; fill b line; give moment, b;", "1 0.0|1 0.0|2 0.0|2 #2");
    }

    // ---- where

    private static void conditions() {
        says("REL: a NAME that stands alone beside < <= > >=, in ( ) or not, has to be in ORDER (as above)");
        Bounds.Maker kinds = ones(ones(at(1), "c", 3), "m", 0);
        Bounds.Maker absent = and(kinds, x -> x.drop(1, 0));
        for (String rel : new String[] {"<", "<=", ">", ">="}) {
            for (String cond : new String[] {"^m " + rel + " 1", "1 " + rel + " ^m", "(^m) " + rel + " 1", "1 " + rel + " ((^m))", "^m " + rel + " m", "m + 0 " + rel + " ^m"}) {
                gives(kinds, "use 0; where " + cond + "; give m;", "!3");
                gives(absent, "use 0; where not " + cond + "; give c;", "!3");
                gives(kinds, "use 0; from 2 to 9; where " + cond.replace("^", "") + "; give m;", "");
            }
            gives(kinds, "use 0; where m + 0 " + rel + " 1 or not m + 0 " + rel + " 1; give m;", "1");
            gives(kinds, "use 0; where c " + rel + " 1 or not c " + rel + " 1; give c;", "1");
        }
        gives(kinds, "use 0; where m = 1 and (m) unlike 0 and 1 = m; give m;", "1");
        gives(kinds, "use 0; where -m < 1; give m;", "1");
        gives(kinds, "use 0; where 1 ^/ 0 < m; give m;", "!2");
        gives(kinds, "use 0; where ^m < 1 / 0; give m;", "!3");

        says("ABSENT on a side: not so; IMPOSSIBLE on a side: not so, but unlike");
        String[] rels = {"=", "<", "<=", ">", ">=", "unlike"};
        for (String rel : rels) {
            boolean unlike = rel.equals("unlike");
            gives(SORTS, "use 0; where e " + rel + " e; give moment;", unlike ? "5" : rel.contains("=") ? "1" : "");
            gives(SORTS, "use 0; where not e " + rel + " e; give moment;", unlike ? "1|2|3|4" : rel.contains("=") ? "2|3|4|5" : "1|2|3|4|5");
            gives(SORTS, "use 0; from 2 to 5; where 1 " + rel + " e; give moment;", unlike ? "5" : "");
            gives(SORTS, "use 0; from 2 to 5; where e " + rel + " 1.5; give moment;", unlike ? "5" : "");
            gives(SORTS, "use 0; from 2 to 4; where f " + rel + " 0.0 / 0 or 0.0 / 0 " + rel + " f; give moment;", "");
        }
        String[] below = {"<", "<=", "unlike"};
        for (String rel : below) {
            gives(SORTS, "use 0; from 1 to 1; where 2 " + rel + " e and 2.4 " + rel + " e and f - 1 " + rel + " f; give moment;", "1");
            gives(SORTS, "use 0; from 1 to 1; where 2.5 " + rel + " e; give moment;", rel.equals("<=") ? "1" : "");
            gives(SORTS, "use 0; from 1 to 1; where 3 " + rel + " e; give moment;", rel.equals("unlike") ? "1" : "");
        }
        gives(SORTS, "use 0; from 1 to 1; where e > 2 and e >= 2.5 and not e > 2.5 and not e >= 2.6 and e = 2.5 and not e = 2; give moment;", "1");
        says("-0.0 and 0.0 are alike; the infinite ones stand beyond all");
        gives(reals(at(1), "r", -0.0), "use 0; where r = 0 and r = 0.0 and r <= -0.0 and not r < 0; give r;", "-0.0");
        gives(reals(at(1), "r", INFINITE), "use 0; where r > 999999999999 and r = r and r > -r and r = 1.0 / 0; give r;", "Infinity");

        says("is: there: a NUMBER, not IMPOSSIBLE; missing, beyond, other, impossible");
        String[] sorts = {"there", "missing", "beyond", "other", "impossible"};
        for (int i = 0; i < 5; i++) {
            int row = i + 1;
            gives(SORTS, "use 0; where e is " + sorts[i] + "; give moment;", "" + row);
            gives(SORTS, "use 0; let u = e; where u is " + sorts[i] + "; give moment;", "" + row);
            gives(SORTS, "use 0; where not e is " + sorts[i] + "; group all; give moment;", row == 1 ? "2" : "1");
        }
        gives(SORTS, "use 0; where f is there; give moment;", "1|5");
        gives(kinds, "use 0; where c is there and m is there; give c;", "1");

        says("or, and: the right side only when the left one does not tell it");
        gives(kinds, "use 0; where 1 = 1 or 1 / 0 = 1; give c;", "1");
        gives(kinds, "use 0; where 1 = 2 or 1 ^/ 0 = 1; give c;", "!2");
        gives(kinds, "use 0; where 1 = 2 and 1 / 0 = 1; give c;", "");
        gives(kinds, "use 0; where 1 = 1 and 1 ^/ 0 = 1; give c;", "!2");
        gives(kinds, "use 0; where 1 = 2 and 1 / 0 = 1 or 1 = 1; give c;", "1");
        gives(kinds, "use 0; where 1 = 1 or 1 / 0 = 1 and 1 / 0 = 1; give c;", "1");
        gives(kinds, "use 0; where 1 = 1 or 1 / 0 = 1 or 1 / 0 = 1; give c;", "1");
        gives(kinds, "use 0; where 1 = 2 and 1 / 0 = 1 and 1 / 0 = 1; give c;", "");
        gives(kinds, "use 0; where 1 = 2 or 1 = 1 or 1 / 0 = 1; give c;", "1");
        gives(kinds, "use 0; where [1 = 1 or 1 / 0 = 1] and 1 ^% 0 = 1; give c;", "!2");
        gives(kinds, "use 0; where not [1 = 2 and 1 / 0 = 1] or 1 % 0 = 1; give c;", "1");
        gives(kinds, "use 0; where not 1 = 1 or 1 ^% 0 = 1; give c;", "!2");
        gives(kinds, "use 0; where 1 = 1 or m < 1; give c;", "1");
        gives(kinds, "use 0; where 1 = 1 and 1 = 2 or 1 = 1; give c;", "1");
        gives(kinds, "use 0; where 1 = 1 and [1 = 2 or 1 = 1]; give c;", "1");
        gives(kinds, "use 0; where 1 = 1 or 1 = 1 and 1 = 2; give c;", "1");
        gives(kinds, "use 0; where [1 = 1 or 1 = 1] and 1 = 2; give c;", "");
        gives(kinds, "use 0; where not 1 = 2 and 1 = 2; give c;", "");
        gives(kinds, "use 0; where not [1 = 2 and 1 = 2]; give c;", "1");
        truths();
    }

    /** Of ROW 1 of SORTS: what is so, what is not. */
    private static final String[] SO = {"1 = 1", "e is there", "f < 4"};
    private static final String[] NOT_SO = {"1 = 2", "e is missing", "f >= 4"};

    private static void truths() {
        says("COND: or, and, not, [ ]: in a text with lets, too");
        for (int i = 0; i < 3; i++) {
            for (int mask = 0; mask < 8; mask++) {
                boolean a = (mask & 1) != 0;
                boolean b = (mask & 2) != 0;
                boolean c = (mask & 4) != 0;
                String p = (a ? SO : NOT_SO)[i];
                String q = (b ? SO : NOT_SO)[(i + 1) % 3];
                String r = (c ? SO : NOT_SO)[(i + 2) % 3];
                truth(p + " or " + q + " and " + r, a || b && c);
                truth(p + " and " + q + " or " + r, a && b || c);
                truth("[" + p + " or " + q + "] and " + r, (a || b) && c);
                truth(p + " and [" + q + " or " + r + "]", a && (b || c));
                truth("not " + p + " and " + q + " and " + r, !a && b && c);
                truth("not " + p + " or not " + q + " or not " + r, !a || !b || !c);
                truth("not [" + p + " or " + q + "] or " + r, !(a || b) || c);
                truth("not [" + p + " and not [" + q + " or not " + r + "]]", !(a && !(b || !c)));
                truth("not not " + p + " and not not not " + q + " or [[" + r + "]]", a && !b || c);
                truth(p + " or " + q + " or " + r, a || b || c);
                truth(p + " and " + q + " and " + r, a && b && c);
            }
        }
    }

    private static void truth(String cond, boolean so) {
        gives(SORTS, "use 0; from 1 to 1; where " + cond + "; give f;", so ? "3" : "");
        gives(SORTS, "use 0; from 1 to 1; let u = f + 1; let v = -u; where " + cond + "; give u, v;", so ? "4 -4" : "");
    }

    // ---- group, span, sort

    private static void groups() {
        says("group: NUMBERS alike; all IMPOSSIBLE ones alike, all ABSENT ones alike; groups come as their first ROWS do");
        gives(SORTS, "use 0; group e; give e, count f, missing e, beyond e, other e, impossible e;", "2.5 1 0 0 0 0|#1 0 1 1 1 0|#4 1 0 0 0 1");
        gives(SORTS, "use 0; from 3 to 5; group e; give e, moment;", "#2 3|#4 5");
        gives(SORTS, "use 0; from 4 to 5; group f; give f, moment;", "#3 4|4 5");
        Bounds.Maker zeros = reals(reals(at(1, 2, 3, 4, 5), "r", -0.0, 1.0, 0.0, NAN, 1.0), "s", NAN, 2.0, NAN, 2.0, 2.0);
        gives(zeros, "use 0; group r; give r, moment, count r, impossible r;", "-0.0 1 2 0|1.0 2 2 0|#4 4 0 1");
        gives(zeros, "use 0; group r, s; give r, s, moment, count s;", "-0.0 #4 1 0|1.0 2.0 2 2|#4 2.0 4 1");
        gives(zeros, "use 0; group s, r; give moment;", "1|2|4");
        gives(zeros, "use 0; group r, r; give moment;", "1|2|4");
        long odd = (1L << 53) + 1;
        gives(wholes(at(1, 2), "a", odd, 1L << 53), "use 0; group a; give a;", odd + "|" + (odd - 1));
        gives(wholes(at(1, 2), "a", odd, 1L << 53), "use 0; fill a line; group a; give a, moment;", "9.007199254740992E15 1");
        gives(ones(ones(at(1, 2), "c", 3), "m", 0), "use 0; group c, m; give c, m, count c, first m;", "1 1 2 1");

        says("all: one group (also without ROWS); group of NAMES: none without ROWS");
        gives(SORTS, "use 0; group all; give count e;", "1");
        gives(SORTS, "use 0; from 9 to 9; group all; give count e, missing e, beyond e, other e, impossible e, moment;", "0 0 0 0 0 #1");
        gives(SORTS, "use 0; from 9 to 9; group all; give sum e, ksum e, mean e, var e, least e, great e;", "#1 #1 #1 #1 #1 #1");
        gives(SORTS, "use 0; from 9 to 9; group all; give median e, first e, last e, slope e, base e, quant 5 e;", "#1 #1 #1 #1 #1 #1");
        gives(SORTS, "use 0; from 9 to 9; group all; give sum f, quant 0 f, first f, last f, least f, great f;", "#1 #1 #1 #1 #1 #1");
        gives(SORTS, "use 0; where e is there and e is missing; group all; give count e, sum f;", "0 #1");
        gives(SORTS, "use 0; from 9 to 9; group e; give e, count e;", "");
        gives(x -> x.plain(0, n("a"), 4), "use 0; group all; give count a, sum a, moment;", "0 #1 #1");

        says("what is told of a group is of its ROWS alone");
        Bounds.Maker sizes = reals(wholes(wholes(at(1, 2, 3, 5, 8, 13, 21), "g", 1, 2, 1, 3, 1, 2, 1), "a", 9, -4, 7, 5, 3, 2, 8), "r", 0.5, 1e100, NAN, 0.1, 2.5, -1e100, 4.0);
        String[] acts = {"count", "missing", "beyond", "other", "impossible", "sum", "ksum", "mean", "var", "least", "great", "median", "first", "last", "slope", "base",
            "quant 0", "quant 50", "quant 100"};
        for (String act : acts) {
            StringBuilder each = new StringBuilder();
            for (int g = 1; g <= 3; g++) {
                GapHouse x = Bounds.made(sizes);
                x.run(Bounds.ask(x, "use 0; where g = " + g + "; group all; give " + act + " a, " + act + " r;"));
                each.append(g == 1 ? "" : "|").append(Bounds.result(x));
            }
            gives(sizes, "use 0; group g; give " + act + " a, " + act + " r;", each.toString());
        }
        gives(sizes, "use 0; group g; give ksum a, sum a, count a, ksum r;", "27.0 27 4 #4|-2.0 -2 2 0.0|5.0 5 1 0.1");

        says("span count n: n ROWS each, the last one what is left; none without ROWS");
        String[] due = {"", "1|1|1|1|1", "2|2|1", "3|2", "4|1", "5", "5"};
        for (int n = 1; n <= 6; n++) {
            gives(zeros, "use 0; span count " + n + "; give count s, impossible s;", counts(due[n]));
        }
        gives(zeros, "use 0; span count 100; give moment;", "1");
        gives(zeros, "use 0; span count 2; give moment, first r, last s;", "1 -0.0 2.0|3 0.0 2.0|5 1.0 2.0");
        gives(zeros, "use 0; from 9 to 9; span count 1; give moment;", "");
        gives(zeros, "use 0; where s = 2; span count 2; give moment;", "2|5");

        says("span time n: from the first ROW's MOMENT m on: m to m + n less 1, and so on up to that of the last ROW, also those without ROWS; none without ROWS");
        Bounds.Maker times = wholes(at(10, 14, 15, 19, 40), "a", 1, 2, 3, 4, 5);
        gives(times, "use 0; span time 5; give moment, count a, sum a;", "10 2 3|15 2 7|20 0 #1|25 0 #1|30 0 #1|35 0 #1|40 1 5");
        gives(times, "use 0; span time 4; give moment, count a;", "10 1|14 2|18 1|22 0|26 0|30 0|34 0|38 1");
        gives(times, "use 0; span time 30; give moment, count a;", "10 4|40 1");
        gives(times, "use 0; span time 31; give moment, count a;", "10 5");
        gives(times, "use 0; span time 999999999999; give moment, count a;", "10 5");
        gives(times, "use 0; from 15 to 19; span time 4; give moment, count a;", "15 1|19 1");
        gives(times, "use 0; where a unlike 1; span time 5; give moment, count a;", "14 2|19 1|24 0|29 0|34 0|39 1");
        gives(times, "use 0; from 50 to 60; span time 5; give moment;", "");
        gives(at(7, 7), "use 0; span time 1; give moment;", "7");
        says("moment: of a span time where it begins; first, slope: of its ROWS");
        gives(times, "use 0; span time 4; give moment, first a, last a, slope a, base a;",
            "10 1 1 #4 #4|14 2 3 1.0 2.0|18 4 4 #4 #4|22 #1 #1 #1 #1|26 #1 #1 #1 #1|30 #1 #1 #1 #1|34 #1 #1 #1 #1|38 5 5 #4 #4");
    }

    /** What spans of these sizes give of s: 0 NUMBERS and 1 IMPOSSIBLE at the ROWS 1 and 3, a NUMBER at the others. */
    private static String counts(String sizes) {
        StringBuilder b = new StringBuilder();
        int row = 1;
        for (String size : sizes.split("\\|")) {
            int none = 0;
            for (int i = 0; i < Integer.parseInt(size); i++) {
                none += row == 1 || row == 3 ? 1 : 0;
                row++;
            }
            b.append(b.length() == 0 ? "" : "|").append(Integer.parseInt(size) - none).append(' ').append(none);
        }
        return b.toString();
    }

    private static void sorts() {
        says("sort: KEYS are to be in ORDER (asked in order, first of all)");
        Bounds.Maker kinds = and(wholes(ones(ones(at(1, 2), "c", 3), "m", 0), "z", 0, 1), x -> {
            x.derived(n("q"), 2, 2, 3);
            x.plain(0, n("n"), 0);
        });
        gives(kinds, "use 0; sort ^m; give c;", "!3");
        gives(kinds, "use 0; sort c, ^m; give c;", "!3");
        gives(kinds, "use 0; sort q, c, ^m; give c;", "!3");
        gives(kinds, "use 0; sort c, ^n, m; give c;", "!3");
        gives(kinds, "use 0; from 9 to 9; sort c, ^m; give c;", "!3");
        gives(kinds, "use 0; sort c, ^q; give c;", "!2");
        gives(kinds, "use 0; sort c down, z down; give z;", "1|0");
        says("By the first KEY, then the next ..; down: the greater NUMBER first; of like ones the one that was ahead");
        Bounds.Maker keys = wholes(wholes(wholes(at(1, 2, 3, 4, 5, 6), "a", 2, 1, 2, 1, 2, 1), "b", 5, 5, 4, 4, 5, 4), "i", 0, 1, 2, 3, 4, 5);
        gives(keys, "use 0; sort a; give i;", "1|3|5|0|2|4");
        gives(keys, "use 0; sort a down; give i;", "0|2|4|1|3|5");
        gives(keys, "use 0; sort a, b; give i;", "3|5|1|2|0|4");
        gives(keys, "use 0; sort a, b down; give i;", "1|3|5|0|4|2");
        gives(keys, "use 0; sort a down, b; give i;", "2|0|4|3|5|1");
        gives(keys, "use 0; sort a, b, i down; give i;", "5|3|1|2|4|0");
        gives(keys, "use 0; sort b down, a down, i down; give i;", "4|0|1|2|5|3");
        long odd = (1L << 53) + 1;
        gives(wholes(at(1, 2, 3), "a", odd, odd - 1, Long.MIN_VALUE), "use 0; sort a; give a;", Long.MIN_VALUE + "|" + (odd - 1) + "|" + odd);
        gives(wholes(at(1, 2, 3), "a", odd, odd - 1, Long.MIN_VALUE), "use 0; sort a down; give a;", odd + "|" + (odd - 1) + "|" + Long.MIN_VALUE);
        gives(wholes(at(1, 2), "a", odd, odd - 1), "use 0; fill a line; sort a; give moment;", "1|2");
        gives(reals(at(1, 2, 3, 4), "r", 0.0, -0.0, -INFINITE, INFINITE), "use 0; sort r; give r;", "-Infinity|0.0|-0.0|Infinity");
        gives(reals(at(1, 2, 3, 4), "r", 0.0, -0.0, -INFINITE, INFINITE), "use 0; sort r down; give r;", "Infinity|0.0|-0.0|-Infinity");

        says("ABSENT ones come behind all, IMPOSSIBLE ones behind NUMBERS; missing first: ABSENT ones ahead of all; impossible first: IMPOSSIBLE ones ahead of NUMBERS");
        Bounds.Maker mixed = and(SORTS, x -> {
            x.segment(0);
            Bounds.rows(x, 0, 5, 6, 7);
            Bounds.reals(x, 0, 5, -1.0, NAN);
        });
        gives(mixed, "use 0; sort e; give moment;", "6|1|5|7|2|3|4");
        gives(mixed, "use 0; sort e down; give moment;", "1|6|5|7|2|3|4");
        gives(mixed, "use 0; sort e missing first; give moment;", "2|3|4|6|1|5|7");
        gives(mixed, "use 0; sort e impossible first; give moment;", "5|7|6|1|2|3|4");
        gives(mixed, "use 0; sort e missing first impossible first; give moment;", "2|3|4|5|7|6|1");
        gives(mixed, "use 0; sort e down missing first; give moment;", "2|3|4|1|6|5|7");
        gives(mixed, "use 0; sort e down impossible first; give moment;", "5|7|1|6|2|3|4");
        gives(mixed, "use 0; sort e down missing first impossible first; give moment;", "2|3|4|5|7|1|6");
        gives(mixed, "use 0; let u = -moment; sort e, u; give moment;", "6|1|7|5|4|3|2");
        gives(mixed, "use 0; from 9 to 9; sort e; give moment;", "");
        gives(mixed, "use 0; let u = -moment; sort u; give moment;", "7|6|5|4|3|2|1");
        Bounds.Maker turned = and(at(7, 6, 1), x -> {
            for (int i = 1; i < 5; i++) {
                x.segment(0);
                x.late(0, i, i + 1);
            }
            x.plain(0, n("e"), 7);
            // IMPOSSIBLE at 6 and 1, -1.0 at 7; at 2 MISSING, at 3 IMPOSSIBLE, at 4 OTHER, at 5 2.5
            Bounds.reals(x, 0, 0, -1.0, NAN, NAN);
            Bounds.reals(x, 0, 2, NAN);
            x.put(0, 3, 6, 1);
            Bounds.reals(x, 0, 4, 2.5);
        });
        gives(turned, "use 0; sort e; give moment;", "7|5|1|3|6|2|4");
        gives(turned, "use 0; sort e missing first; give moment;", "2|4|7|5|1|3|6");
        gives(turned, "use 0; sort e impossible first; give moment;", "1|3|6|7|5|2|4");
        gives(turned, "use 0; sort e missing first impossible first; give moment;", "2|4|1|3|6|7|5");
        gives(turned, "use 0; sort e down missing first impossible first; give moment;", "2|4|1|3|6|5|7");
    }

    // ---- give

    private static void wantsOfItems() {
        says("diff, cum, sum, ksum, mean, var, slope, base want what can be SUMMED, least, great, median, quant what is in ORDER (asked ITEM by ITEM, first of all)");
        Bounds.Maker kinds = and(wholes(ones(ones(at(1, 2), "c", 3), "m", 0), "z", 0, 1), x -> {
            x.derived(n("q"), 2, 2, 3);
            x.scaled(n("t"), 0, 1000, 0);
        });
        String[] summed = {"sum", "ksum", "mean", "var", "slope", "base"};
        String[] ofOne = {"1", "1.0", "1.0", "0.0", "#4", "#4"};
        String[] ordered = {"least", "great", "median", "quant 50"};
        String[] held = {"count", "missing", "beyond", "other", "impossible", "first", "last"};
        for (String rows : new String[] {"", "from 9 to 9; "}) {
            for (int i = 0; i < summed.length; i++) {
                gives(kinds, "use 0; " + rows + "group all; give count q, " + summed[i] + " ^c;", "!3");
                gives(kinds, "use 0; " + rows + "span count 1; give " + summed[i] + " ^c, least m;", "!3");
                gives(kinds, "use 0; from 1 to 1; group all; give " + summed[i] + " m;", ofOne[i]);
            }
            for (String act : ordered) {
                gives(kinds, "use 0; " + rows + "group all; give count q, " + act + " ^m;", "!3");
                gives(kinds, "use 0; " + rows + "group c; give " + act + " ^m, sum c;", "!3");
                gives(kinds, "use 0; group all; give " + act + " c;", act.equals("median") ? "1.0" : "1");
            }
            gives(kinds, "use 0; " + rows + "give q, diff ^c;", "!3");
            gives(kinds, "use 0; " + rows + "give cum ^c, q;", "!3");
            gives(kinds, "use 0; " + rows + "give moment, cum ^c, diff c;", "!3");
        }
        for (String act : held) {
            gives(kinds, "use 0; group all; give " + act + " c, " + act + " m;", act.equals("count") ? "2 2" : act.endsWith("st") ? "1 1" : "0 0");
        }
        gives(kinds, "use 0; give diff m, cum m, c, m;", "#1 1 1 1|0 2 1 1");
        gives(kinds, "use 0; group all; give count ^t;", "!3");
        gives(kinds, "use 0; give ^t;", "!3");

        says("then ROW by ROW (group by group), ITEM by ITEM");
        Bounds.Maker two = and(wholes(wholes(at(1, 2), "y", 1, 0), "z", 1, 0), x -> {
            x.derived(n("p"), 0, 0, 3);
            x.derived(n("q"), 1, 1, 3);
            x.plain(0, n("l"), 5);
            Bounds.wholes(x, 4, 0, Long.MAX_VALUE, Long.MAX_VALUE);
        });
        gives(two, "use 0; give ^p, q;", "!2");
        gives(two, "use 0; give ^cum l, q;", "!1");
        gives(two, "use 0; give ^q, cum l;", "!2");
        gives(two, "use 0; span count 1; give sum l, count ^q;", "!2");
        gives(two, "use 0; group all; give ^sum l, count q;", "!1");
        gives(two, "use 0; group all; give count ^q, sum l;", "!2");
        gives(two, "use 0; group all; give sum y, ^sum l;", "!1");
    }

    private static void rowItems() {
        says("diff: this ROW's less that of the ROW ahead (of the first one, which is read, too, MISSING; else this one's sort, else the other one's)");
        gives(wholes(at(1, 2, 3), "a", 5, 3, 10), "use 0; give diff a;", "#1|-2|7");
        gives(wholes(at(1), "a", 5), "use 0; give diff a;", "#1");
        gives(at(1), "use 0; let u = 5; give diff u;", "#1");
        gives(SORTS, "use 0; give diff e, diff f;", "#1 #1|#1 #1|#2 #2|#3 #3|#3 #3");
        gives(SORTS, "use 0; from 3 to 5; give diff e, diff f;", "#1 #1|#3 #3|#3 #3");
        gives(SORTS, "use 0; sort e impossible first; give moment, diff e;", "5 #1|1 #4|2 #1|3 #2|4 #3");
        gives(SORTS, "use 0; from 1 to 1; give diff e;", "#1");
        gives(wholes(at(1, 2), "a", Long.MIN_VALUE, Long.MAX_VALUE), "use 0; give a, ^diff a;", "!1");
        gives(wholes(at(1, 2), "a", 0, Long.MIN_VALUE), "use 0; give diff a;", "#1|-9223372036854775808");
        gives(wholes(at(1, 2), "a", Long.MIN_VALUE, -1), "use 0; give diff a;", "#1|9223372036854775807");
        gives(wholes(at(1, 2), "a", Long.MIN_VALUE, 0), "use 0; give ^diff a;", "!1");
        gives(wholes(at(1, 2), "a", 1, Long.MIN_VALUE), "use 0; give ^diff a;", "!1");
        gives(reals(at(1, 2, 3), "r", INFINITE, INFINITE, 1), "use 0; give diff r;", "#1|#4|-Infinity");
        gives(reals(at(1, 2), "r", -0.0, -0.0), "use 0; give diff r;", "#1|0.0");
        gives(and(wholes(at(1, 2), "z", 0, 1), x -> x.derived(n("q"), 0, 0, 3)), "use 0; give diff ^q;", "!2");

        says("cum: all since the latest ABSENT one added, from 0 (0.0) on (ABSENT ones stay so)");
        gives(wholes(at(1, 2, 3), "a", 5, -3, 10), "use 0; give cum a;", "5|2|12");
        gives(reals(at(1, 2, 3), "r", -0.0, 1.5, NAN), "use 0; give cum r;", "0.0|1.5|#4");
        gives(SORTS, "use 0; give cum e, cum f;", "2.5 3|#1 #1|#2 #2|#3 #3|#4 4");
        Bounds.Maker gaps = and(at(1, 2, 3, 4, 5, 6), x -> {
            x.plain(0, n("a"), 4);
            x.plain(0, n("r"), 7);
            for (int i : new int[] {0, 1, 3, 4, 5}) {
                x.correct(0, 0, i, 10 + i, false, 0);
                x.correct(1, 0, i, i == 1 ? d(NAN) : d(10 + i), true, 0);
            }
        });
        gives(gaps, "use 0; give cum a, cum r;", "10 10.0|21 #4|#1 #1|13 13.0|27 27.0|42 42.0");
        gives(gaps, "use 0; give cum a, cum a, diff a;", "10 10 #1|21 21 1|#1 #1 #1|13 13 #1|27 27 1|42 42 1");
        gives(wholes(at(1, 2, 3), "a", Long.MAX_VALUE, 0, 1), "use 0; from 1 to 2; give cum a;", "9223372036854775807|9223372036854775807");
        gives(wholes(at(1, 2, 3), "a", Long.MAX_VALUE, 0, 1), "use 0; give moment, ^cum a;", "!1");
        gives(wholes(at(1, 2, 3), "a", Long.MIN_VALUE, 0, -1), "use 0; give moment, ^cum a;", "!1");
        gives(wholes(at(1, 2, 3), "a", Long.MIN_VALUE, Long.MAX_VALUE, 1), "use 0; give cum a;", "-9223372036854775808|-1|0");

        says("moment: of a group its first ROW's; of all without ROWS MISSING");
        gives(gaps, "use 0; give moment;", "1|2|3|4|5|6");
        gives(gaps, "use 0; sort a down; give moment;", "6|5|4|2|1|3");
        gives(gaps, "use 0; from 3 to 6; group all; give moment;", "3");
        gives(gaps, "use 0; from 7 to 9; group all; give moment;", "#1");
        gives(gaps, "use 0; span count 4; give moment;", "1|5");
    }

    private static void counts() {
        says("count: NUMBERS that are not IMPOSSIBLE; missing, beyond, other, impossible: how many such CELLS");
        gives(SORTS, "use 0; group all; give count e, missing e, beyond e, other e, impossible e;", "1 1 1 1 1");
        gives(SORTS, "use 0; group all; give count f, missing f, beyond f, other f, impossible f;", "2 1 1 1 0");
        for (int row = 1; row <= 5; row++) {
            StringBuilder want = new StringBuilder();
            for (int sort = 1; sort <= 5; sort++) {
                want.append(sort == 1 ? "" : " ").append(sort == row ? 1 : 0);
            }
            gives(SORTS, "use 0; from " + row + " to " + row + "; group all; give count e, missing e, beyond e, other e, impossible e;", want.toString());
        }

        says("MISSING without any NUMBERS; least, great, median, quant: without IMPOSSIBLE ones");
        gives(SORTS, "use 0; from 2 to 4; group all; give sum e, ksum e, mean e, var e, least e, great e;", "#1 #1 #1 #1 #1 #1");
        gives(SORTS, "use 0; from 2 to 4; group all; give median e, first e, last e, slope e, base e, quant 100 e;", "#1 #1 #1 #1 #1 #1");
        gives(SORTS, "use 0; from 5 to 5; group all; give sum e, ksum e, mean e, var e, least e, great e;", "#4 #4 #4 #4 #1 #1");
        gives(SORTS, "use 0; from 5 to 5; group all; give median e, first e, last e, slope e, base e, quant 0 e;", "#1 #4 #4 #4 #4 #1");
        gives(SORTS, "use 0; group all; give sum e, ksum e, mean e, var e, least e, great e;", "#4 #4 #4 #4 2.5 2.5");
        gives(SORTS, "use 0; group all; give median e, first e, last e, slope e, base e, quant 50 e;", "2.5 2.5 #4 #4 #4 2.5");
        gives(SORTS, "use 0; from 1 to 4; group all; give sum e, ksum e, mean e, var e, first e, last e;", "2.5 2.5 2.5 0.0 2.5 2.5");
    }

    private static void sums() {
        long most = Long.MAX_VALUE;
        long least = Long.MIN_VALUE;
        says("sum: of WHOLES exactly (OVERFLOW only if all together does not fit), of REALS from 0.0 on");
        long[][] fits = {{most}, {least}, {most, 1, -1}, {most, most, least, least}, {least, -1, 1}, {most - 1, 1}, {least + 1, -1}, {0}, {most, most, most, least, least, -1},
            {1L << 32, -1, 1}, {-1, -1, -1}, {0xffffffffL, 0xffffffffL, 1}};
        for (long[] values : fits) {
            java.math.BigInteger sum = java.math.BigInteger.ZERO;
            for (long v : values) {
                sum = sum.add(java.math.BigInteger.valueOf(v));
            }
            gives(wholes(at(new long[values.length]), "a", values), "use 0; group all; give sum a;", "" + sum.longValueExact());
        }
        long[][] not = {{most, 1}, {least, -1}, {most, most}, {least, least}, {most, 1, -1, 1}, {1L << 62, 1L << 62}, {-(1L << 62), -(1L << 62), -1}};
        for (long[] values : not) {
            gives(wholes(at(new long[values.length]), "a", values), "use 0; group all; give ^sum a;", "!1");
        }
        gives(wholes(at(0, 0), "a", -(1L << 62), -(1L << 62)), "use 0; group all; give sum a;", "" + least);
        gives(reals(at(1), "r", -0.0), "use 0; group all; give sum r, ksum r, mean r, first r, least r;", "0.0 0.0 0.0 -0.0 -0.0");
        gives(reals(at(1, 2), "r", Double.MAX_VALUE, Double.MAX_VALUE), "use 0; group all; give sum r, mean r, ksum r;", "Infinity Infinity #4");
        gives(reals(at(1, 2, 3), "r", 0.1, 0.2, 0.3), "use 0; group all; give sum r, mean r;", (0.0 + 0.1 + 0.2 + 0.3) + " " + (0.0 + 0.1 + 0.2 + 0.3) / 3);
        says("a sum of as many as there can be: 300 of the greatest size");
        Bounds.Maker many = x -> {
            for (int series = 0; series < 2; series++) {
                x.segment(series);
                x.segment(series);
                for (int i = 0; i < (series == 0 ? 20 : 15); i++) {
                    x.late(series, i / 10, i);
                }
                x.constant(series, n(series == 0 ? "k" : "j"), 1, false);
            }
            x.plain(0, n("a"), 5);
            x.put(2, 0, 5, 10);
            x.put(2, 1, 5, 10);
            for (int i = 0; i < 20; i++) {
                x.store(2, i / 10, i % 10, i % 2 == 0 ? most : least, false);
            }
        };
        gives(many, "use 0; join 1 on k j; group all; give sum a, count a, mean a;", "-150 300 0.0");
        gives(many, "use 0; join 1 on k j; sort a; give a;", least + times(149, "|" + least) + times(150, "|" + most));
        gives(and(many, x -> x.store(2, 0, 1, most, false)), "use 0; join 1 on k j; group all; give ^sum a;", "!1");

        says("ksum: s and c 0.0; t = s + x; c + ((s - t) + x), if the size of s is not less than that of x, else c + ((x - t) + s); s + c");
        double[][] sums = {{1, 1e100, 1, -1e100}, {1e100, 1, -1e100, 1}, {0.1, 0.2, 0.3, -0.6}, {1e16, 1, 1, -1e16}, {-1, 1}, {1, -1e16, 1e16}, {3}, {-0.0},
            {1e308, 1e308, -1e308}, {INFINITE, 1}, {1, INFINITE, -INFINITE}, {NAN, 1}};
        for (double[] values : sums) {
            long[] moments = new long[values.length];
            gives(reals(at(moments), "r", values), "use 0; group all; give ksum r;", real(neumaier(values)));
        }
        gives(wholes(at(1, 2), "a", (1L << 53) + 1, 1), "use 0; group all; give ksum a, mean a, sum a;", neumaier(new double[] {1L << 53, 1}) + " "
            + ((double) (1L << 53) + 1.0) / 2 + " " + ((1L << 53) + 2));

        says("mean: the sum of all as REALS, from 0.0 on, / n; var: the sum of (x - mean) squared, / n");
        gives(wholes(at(1, 2), "a", most, most), "use 0; group all; give mean a, var a;", (double) most + " 0.0");
        gives(wholes(at(1, 2, 3, 4), "a", 1, 2, 3, 4), "use 0; group all; give mean a, var a;", "2.5 1.25");
        gives(reals(at(1, 2, 3), "r", 0.1, 0.2, 0.4), "use 0; group all; give mean r, var r;", meanAndVar(0.1, 0.2, 0.4));
        gives(reals(at(1, 2), "r", INFINITE, 1), "use 0; group all; give mean r, var r;", "Infinity #4");
    }

    private static double neumaier(double[] values) {
        double s = 0.0;
        double c = 0.0;
        for (double x : values) {
            double t = s + x;
            c = Math.abs(s) >= Math.abs(x) ? c + ((s - t) + x) : c + ((x - t) + s);
            s = t;
        }
        return s + c;
    }

    private static String meanAndVar(double... values) {
        double sum = 0.0;
        for (double x : values) {
            sum = sum + x;
        }
        double mean = sum / values.length;
        double squares = 0.0;
        for (double x : values) {
            squares = squares + (x - mean) * (x - mean);
        }
        return mean + " " + squares / values.length;
    }

    private static void ranks() {
        says("quant p: the one numbered p * n / 100, rounded up, from 1 on (of p 0 the first)");
        for (int size : new int[] {1, 2, 3, 5, 7, 16}) {
            long[] values = new long[size];
            long[] moments = new long[size];
            for (int i = 0; i < size; i++) {
                values[i] = size - i;
            }
            for (int p : new int[] {0, 1, 6, 7, 14, 15, 20, 21, 33, 34, 40, 49, 50, 51, 60, 66, 67, 80, 93, 94, 99, 100}) {
                long want = Math.max(1, (long) Math.ceil(p * size / 100.0));
                gives(wholes(at(moments), "a", values), "use 0; group all; give quant " + p + " a;", "" + want);
            }
        }
        long[] mixed = {-7, 1, -5, 3, -6, 2, 4, -1, 0, -2, 7, -3, 6, -4, 5, 8};
        for (int size = 1; size <= 16; size++) {
            long[] values = java.util.Arrays.copyOf(mixed, size);
            long[] sorted = values.clone();
            java.util.Arrays.sort(sorted);
            double[] halves = new double[size];
            for (int i = 0; i < size; i++) {
                halves[i] = values[i] / 2.0;
            }
            Bounds.Maker both = reals(wholes(at(new long[size]), "a", values), "r", halves);
            double median = ((double) sorted[(size - 1) / 2] + (double) sorted[size / 2]) / 2.0;
            gives(both, "use 0; group all; give least a, great a, median a, least r, great r, median r;",
                sorted[0] + " " + sorted[size - 1] + " " + median + " " + sorted[0] / 2.0 + " " + sorted[size - 1] / 2.0 + " " + median / 2.0);
            for (int p = 0; p <= 100; p += 10) {
                long at = sorted[Math.max(1, (p * size + 99) / 100) - 1];
                gives(both, "use 0; group all; give quant " + p + " a, quant " + p + " r;", at + " " + at / 2.0);
            }
        }
        gives(wholes(at(1, 2, 3), "a", -3, -5, -4), "use 0; group all; give least a, great a, median a, quant 0 a, quant 100 a;", "-5 -3 -4.0 -5 -3");

        says("median: the middle one, or both middle ones added, / 2.0, as REALS");
        gives(wholes(at(1), "a", 7), "use 0; group all; give median a;", "7.0");
        gives(wholes(at(1, 2), "a", 7, 4), "use 0; group all; give median a;", "5.5");
        gives(wholes(at(1, 2, 3), "a", 7, 4, 100), "use 0; group all; give median a;", "7.0");
        gives(wholes(at(1, 2, 3, 4), "a", 7, 4, 100, 5), "use 0; group all; give median a;", "6.0");
        gives(wholes(at(1, 2), "a", Long.MAX_VALUE, Long.MAX_VALUE), "use 0; group all; give median a;", "" + ((double) Long.MAX_VALUE + (double) Long.MAX_VALUE) / 2.0);
        gives(wholes(at(1), "a", (1L << 53) + 1), "use 0; group all; give median a;", "9.007199254740992E15");
        gives(reals(at(1, 2), "r", Double.MAX_VALUE, Double.MAX_VALUE), "use 0; group all; give median r;", "Infinity");
        gives(reals(at(1, 2), "r", -INFINITE, INFINITE), "use 0; group all; give median r;", "#4");
        gives(reals(at(1, 2, 3), "r", NAN, 3.0, NAN), "use 0; group all; give median r, quant 100 r, least r, great r;", "3.0 3.0 3.0 3.0");
        gives(reals(at(1, 2), "r", -0.0, -0.0), "use 0; group all; give median r;", "-0.0");

        says("least, great: first of like ones; sorted (stable)");
        gives(reals(at(1, 2, 3, 4), "r", 0.0, -0.0, 0.0, -0.0), "use 0; group all; give least r, great r, quant 25 r, quant 26 r, quant 75 r, quant 100 r;",
            "0.0 0.0 0.0 -0.0 0.0 -0.0");
        gives(reals(at(1, 2, 3, 4), "r", -0.0, 0.0, -0.0, 0.0), "use 0; group all; give least r, great r, quant 25 r, quant 26 r, quant 75 r, quant 100 r;",
            "-0.0 -0.0 -0.0 0.0 -0.0 0.0");
        gives(reals(at(1, 2, 3), "r", 5, -0.0, 0.0), "use 0; group all; give least r, great r;", "-0.0 5.0");
        gives(reals(at(1, 2, 3), "r", -5, -0.0, 0.0), "use 0; group all; give least r, great r;", "-5.0 -0.0");
        gives(reals(at(1, 2, 3), "r", INFINITE, 1, -INFINITE), "use 0; group all; give least r, great r, median r;", "-Infinity Infinity 1.0");
        gives(wholes(at(1, 2, 3), "a", Long.MIN_VALUE, Long.MAX_VALUE, 0), "use 0; group all; give least a, great a, first a, last a;",
            Long.MIN_VALUE + " " + Long.MAX_VALUE + " " + Long.MIN_VALUE + " 0");

        says("first, last: the first, the last one (IMPOSSIBLE, too)");
        Bounds.Maker ends = and(at(1, 2, 3, 4), x -> {
            x.plain(0, n("r"), 7);
            x.correct(0, 0, 1, d(NAN), true, 0);
            x.correct(0, 0, 2, d(5), true, 0);
        });
        gives(ends, "use 0; group all; give first r, last r, count r;", "#4 5.0 1");
        gives(ends, "use 0; from 1 to 2; group all; give first r, last r, least r;", "#4 #4 #1");
        gives(ends, "use 0; from 3 to 4; group all; give first r, last r;", "5.0 5.0");
    }

    private static void lines() {
        says("slope, base: x = its MOMENT less the group's first ROW's: slope = (n P - X Y) / (n Q - X X), base = (Y - slope X) / n (slope X first)");
        line(new long[] {0, 1, 2}, 1, 3, 5);
        line(new long[] {100, 101, 103, 107}, 0.1, 0.2, -0.4, 7);
        line(new long[] {-Bounds.MOST, 0, Bounds.MOST}, 1, 2, 4);
        line(new long[] {5, 5}, 1, 2);
        line(new long[] {5, 5}, 1, 1);
        line(new long[] {5}, 7);
        line(new long[] {1, 2}, INFINITE, 1);
        line(new long[] {1, 2}, NAN, 1);
        line(new long[] {0, 1}, 0, 0);
        line(new long[] {0, 1, 2}, Double.MIN_VALUE, Double.MIN_VALUE, Double.MIN_VALUE);
        line(new long[] {1, 2}, Double.MAX_VALUE, Double.MAX_VALUE);
        says("the group's first ROW, whether it holds a NUMBER or not");
        Bounds.Maker gap = and(at(10, 12, 15), x -> {
            x.plain(0, n("r"), 7);
            x.correct(0, 0, 1, d(1), true, 0);
            x.correct(0, 0, 2, d(7), true, 0);
        });
        gives(gap, "use 0; group all; give slope r, base r;", "2.0 -3.0");
        gives(gap, "use 0; from 11 to 15; group all; give slope r, base r;", "2.0 1.0");
        gives(wholes(at(3, 4, 5), "a", 10, 8, 6), "use 0; group all; give slope a, base a;", "-2.0 10.0");
    }

    private static void line(long[] moments, double... y) {
        double n = y.length;
        double sumX = 0.0;
        double sumY = 0.0;
        double p = 0.0;
        double q = 0.0;
        for (int i = 0; i < y.length; i++) {
            double x = moments[i] - moments[0];
            sumX += x;
            sumY += y[i];
            p += x * y[i];
            q += x * x;
        }
        double slope = (n * p - sumX * sumY) / (n * q - sumX * sumX);
        gives(reals(at(moments), "r", y), "use 0; group all; give slope r, base r;", real(slope) + " " + real((sumY - slope * sumX) / n));
    }

    // ---- promises 28 to 33

    /** Three ROWS, a REAL and a WHOLE with gaps, QUERY 0 run once; QUERY 1 has a FINDING. */
    private static final Bounds.Maker RAN = and(wholes(reals(at(1, 2, 3), "r", 1.5, NAN), "a", 7, 8, 9), x -> {
        Bounds.ask(x, "use 0; give r, a;");
        Bounds.ask(x, "use 0; let u = 1 / 0; give a, r;");
        x.run(0);
    });

    private static void runs() {
        says("run: how many ROWS its RESULT has; UNKNOWN");
        Bounds.answers(RAN, x -> x.run(0), 3);
        for (int query : new int[] {-1, 2, 8, Integer.MIN_VALUE, Integer.MAX_VALUE}) {
            Bounds.refuses(RAN, x -> x.run(query), UNKNOWN);
        }
        says("-10 less its FINDING (there is no RESULT then)");
        Bounds.answers(RAN, x -> x.run(1), -12);
        Bounds.Maker failed = and(RAN, x -> x.run(1));
        long[] ended = {2, 17, 0, 0, 0};
        for (int what = 0; what < 5; what++) {
            int w = what;
            Bounds.tells(failed, x -> x.ended(w), ended[w]);
        }
        Bounds.tells(failed, x -> x.sort(0, 0), UNKNOWN);
        Bounds.tells(failed, x -> x.cell(0, 0), 0);
        Bounds.tells(failed, x -> x.real(0), UNKNOWN);
        Bounds.tells(failed, x -> x.digest(), 17);
        Bounds.tells(failed, x -> x.count(8), 2);
        Bounds.answers(and(failed, x -> x.run(0)), x -> x.ended(4), 3);
        Bounds.answers(and(failed, x -> x.run(0)), x -> x.ended(1), NONE);

        says("ROOM: 150 RUNS were (clear() counts on)");
        Bounds.Maker many = and(RAN, x -> {
            for (int i = 1; i < 149; i++) {
                x.run(i % 2);
            }
        });
        Bounds.answers(many, x -> x.count(8), 149);
        Bounds.answers(many, x -> x.run(0), 3);
        Bounds.Maker full = and(many, x -> x.run(0));
        Bounds.refuses(full, x -> x.run(0), ROOM);
        Bounds.refuses(full, x -> x.run(1), ROOM);
        Bounds.refuses(full, x -> x.run(2), UNKNOWN);
        Bounds.Maker cleared = and(full, x -> {
            x.clear();
            Bounds.ask(x, "use 0; give moment;");
        });
        Bounds.refuses(cleared, x -> x.run(0), ROOM);
        Bounds.answers(cleared, x -> x.count(8), 150);
        Bounds.Maker almost = and(many, x -> {
            x.clear();
            Bounds.ask(x, "use 0; give moment;");
        });
        Bounds.answers(almost, x -> x.run(0), 0);
        Bounds.refuses(and(almost, x -> x.run(0)), x -> x.run(0), ROOM);
        Bounds.answers(and(many, x -> {
            x.mark();
            x.run(0);
            x.undo(0);
        }), x -> x.run(0), ROOM);
        says("a refused RUN is none");
        Bounds.answers(and(RAN, x -> x.run(5)), x -> x.count(8), 1);
        Bounds.answers(and(RAN, x -> x.run(5)), x -> x.ended(4), 3);
    }

    private static void results() {
        says("ended: its FINDING (what = 0; 0 none), the place of that (1; NONE), the WAY (2; NONE ahead of any), ITEMS (3), ROWS (4); OUTSIDE");
        long[] first = {0, NONE, NONE, 0, 0};
        long[] then = {0, NONE, 0, 2, 3};
        for (int what = 0; what < 5; what++) {
            int w = what;
            Bounds.tells(Bounds.NEW, x -> x.ended(w), first[w]);
            Bounds.tells(RAN, x -> x.ended(w), then[w]);
            Bounds.answers(and(RAN, x -> x.clear()), x -> x.ended(w), first[w]);
        }
        for (int what : new int[] {-1, 5, Integer.MIN_VALUE, Integer.MAX_VALUE}) {
            Bounds.tells(RAN, x -> x.ended(what), OUTSIDE);
            Bounds.tells(Bounds.NEW, x -> x.ended(what), OUTSIDE);
        }
        says("sort: UNKNOWN; cell: 0; real: UNKNOWN");
        int[][] nowhere = {{-1, 0}, {3, 0}, {0, -1}, {0, 2}, {2, 2}, {3, 1}, {Integer.MAX_VALUE, 0}, {0, Integer.MAX_VALUE}, {Integer.MIN_VALUE, 1},
            {1, Integer.MIN_VALUE}, {Integer.MAX_VALUE, Integer.MAX_VALUE}, {1 << 30, 0}};
        for (int[] at : nowhere) {
            Bounds.tells(RAN, x -> x.sort(at[0], at[1]), UNKNOWN);
            Bounds.tells(RAN, x -> x.cell(at[0], at[1]), 0);
            Bounds.tells(Bounds.NEW, x -> x.sort(at[0], at[1]), UNKNOWN);
        }
        long[][] sorts = {{0, 0}, {4, 0}, {2, 0}};
        long[][] cells = {{d(1.5), 7}, {Bounds.NO_NUMBER, 8}, {0, 9}};
        for (int i = 0; i < 3; i++) {
            for (int j = 0; j < 2; j++) {
                int row = i;
                int item = j;
                Bounds.tells(RAN, x -> x.sort(row, item), sorts[row][item]);
                Bounds.tells(RAN, x -> x.cell(row, item), cells[row][item]);
            }
        }
        Bounds.tells(RAN, x -> x.real(0), 1);
        Bounds.tells(RAN, x -> x.real(1), 0);
        for (int j : new int[] {-1, 2, 6, Integer.MIN_VALUE, Integer.MAX_VALUE}) {
            Bounds.tells(RAN, x -> x.real(j), UNKNOWN);
            Bounds.tells(Bounds.NEW, x -> x.real(j), UNKNOWN);
        }
        Bounds.tells(Bounds.NEW, x -> x.real(0), UNKNOWN);
        says("a RESULT without ROWS has ITEMS");
        Bounds.Maker empty = and(RAN, x -> x.run(Bounds.ask(x, "use 0; from 9 to 9; give r, a, moment;")));
        Bounds.answers(empty, x -> x.ended(4), 0);
        Bounds.answers(empty, x -> x.ended(3), 3);
        Bounds.answers(empty, x -> x.real(0), 1);
        Bounds.answers(empty, x -> x.real(2), 0);
        Bounds.answers(empty, x -> x.real(3), UNKNOWN);
        Bounds.answers(empty, x -> x.sort(0, 0), UNKNOWN);
        Bounds.answers(empty, x -> x.digest(), 17);
        Bounds.answers(empty, x -> x.ended(0), 0);

        says("digest: h, 17 at first; for each CELL, by ROWS, 31 h and sort(), then 31 h and cell(), wrapping");
        Bounds.tells(Bounds.NEW, x -> x.digest(), 17);
        long h = 17;
        for (int i = 0; i < 3; i++) {
            for (int j = 0; j < 2; j++) {
                h = 31 * h + sorts[i][j];
                h = 31 * h + cells[i][j];
            }
        }
        Bounds.tells(RAN, x -> x.digest(), h);
        Bounds.answers(and(wholes(at(1), "a", -1), x -> x.run(Bounds.ask(x, "use 0; give a;"))), x -> x.digest(), 17 * 31 * 31 - 1);
        Bounds.answers(and(at(1), x -> {
            x.plain(0, n("a"), 4);
            x.run(Bounds.ask(x, "use 0; give a;"));
        }), x -> x.digest(), (17 * 31 + 1) * 31);
        says("the RESULT stays as it was while the store changes");
        Bounds.answers(and(RAN, x -> {
            x.spread(1, 0, false);
            x.thin(0, 2);
            x.segment(0);
        }), x -> x.digest(), h);
    }

    private static final String[] TEXTS = {"use 0; give e, f;", "use 0; group e; give e, count f, moment;", "use 0; group all; give count e, sum f, moment;",
        "use 0; from 9 to 9; group all; give count e, moment;", "use 0; span count 2; give count f, moment;", "use 0; span time 3; give count f, moment;",
        "use 0; sort f down missing first; give moment, cum f, diff f;", "use 0; let u = f / 2.0; let v = u * 2; give u, v;", "use 0; let u = 1 / 0; give u;",
        "use 0; fill f line; fill e last; give e, f;", "use 0; let u = f; let v = e; fill u last; fill v 1; where u = 3; give u, v, moment;", "use 0; group f, e; give e, f;",
        "use 0; join 1 near 1; give moment, b;", "use 0; join 1 on f b; give f, b;", "use 1; give b;", "use 0; where e is missing or f > 3; give moment;",
        "use 0; group all; give least f, great f, median f, slope f, base f, first e;", "use 1; join 0 on b f; group b; give b, moment, sum f;"};

    private static void runBehindRun() {
        says("a RUN gives what it gives, whatever RUNS were ahead of it");
        Bounds.Maker maker = and(SORTS, x -> {
            x.segment(1);
            Bounds.rows(x, 1, 0, 1, 2, 4);
            x.plain(1, n("b"), 4);
            Bounds.wholes(x, 2, 0, 3, 4, 4);
        });
        String[] alone = new String[TEXTS.length];
        for (int i = 0; i < TEXTS.length; i++) {
            GapHouse x = Bounds.made(maker);
            x.run(Bounds.ask(x, TEXTS[i]));
            alone[i] = ended(x);
        }
        for (int i = 0; i < TEXTS.length; i++) {
            for (int j = 0; j < TEXTS.length; j++) {
                GapHouse x = Bounds.made(maker);
                int first = Bounds.ask(x, TEXTS[i]);
                int second = Bounds.ask(x, TEXTS[j]);
                x.run(first);
                x.run(second);
                Bounds.due(TEXTS[j] + " behind " + TEXTS[i], ended(x), alone[j]);
                x.run(first);
                Bounds.due(TEXTS[i] + " again", ended(x), alone[i]);
            }
        }
    }

    private static String ended(GapHouse x) {
        return x.ended(0) + "@" + x.ended(1) + " " + x.ended(3) + " " + x.ended(4) + " " + x.digest() + " " + Bounds.result(x);
    }

    public static void main(String[] args) {
        order();
        rooms();
        rowsOfSeries();
        joinOn();
        joinNear();
        lets();
        kindsOfLets();
        fills();
        conditions();
        groups();
        sorts();
        wantsOfItems();
        rowItems();
        counts();
        sums();
        ranks();
        lines();
        runs();
        results();
        runBehindRun();
        Bounds.close();
    }
}

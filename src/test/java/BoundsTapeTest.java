import java.util.ArrayList;
import java.util.List;

/** The boundary cases of the document: part 3 (THE TAPE, TOKENS, FAULTS), promises 2, 3, 23 and 24. */
public final class BoundsTapeTest {
    private static final int OUTSIDE = Bounds.OUTSIDE, ROOM = Bounds.ROOM;

    /** SERIES 0: a ints, r doubles, m marks, c codes, k constant 7, z ints, s over a, q a / z, h constant 0.5; SERIES 1: b ints, t doubles; a ROW each. */
    private static final Bounds.Maker HOUSE = x -> {
        x.segment(0);
        x.segment(1);
        x.late(0, 0, 5);
        x.late(1, 0, 5);
        x.plain(0, n("a"), 4);
        x.plain(0, n("r"), 7);
        x.plain(0, n("m"), 0);
        x.plain(0, n("c"), 3);
        x.constant(0, n("k"), 7, false);
        x.plain(0, n("z"), 4);
        x.scaled(n("s"), 0, 2000, 0);
        x.derived(n("q"), 0, 5, 3);
        x.constant(0, n("h"), 500, true);
        x.plain(1, n("b"), 4);
        x.plain(1, n("t"), 7);
        x.spread(0, 3, false);
        x.spread(1, d(1.5), true);
        x.spread(5, 1, false);
        x.spread(9, 3, false);
    };

    /** Nine ints aa to ai in SERIES 0, s over aa, t aa + ab, u over t; bb in SERIES 1. */
    private static final Bounds.Maker MANY = x -> {
        x.segment(0);
        x.late(0, 0, 5);
        for (char c = 'a'; c <= 'i'; c++) {
            x.plain(0, n("a" + c), 4);
        }
        x.scaled(n("s"), 0, 2000, 0);
        x.derived(n("t"), 0, 1, 0);
        x.scaled(n("u"), 10, 2000, 0);
        x.plain(1, n("bb"), 4);
    };

    private static long n(String name) {
        return Bounds.n(name);
    }

    private static long d(double v) {
        return Bounds.d(v);
    }

    private static void says(String words) {
        Bounds.says(words);
    }

    private static void right(String text) {
        Bounds.right(HOUSE, text);
    }

    private static void faulty(String text, int fault) {
        Bounds.faulty(HOUSE, text, fault);
    }

    private static String times(int n, String text) {
        return Bounds.times(n, text);
    }

    // ---- promises 2, 3, 23, 24

    private static Bounds.Maker tape(int length) {
        return Bounds.both(HOUSE, x -> {
            for (int i = 0; i < 30; i++) {
                x.feed(0x75736520, 0x303b6769, 0x76652061, 0x3b202020, 0x20202020);
            }
            x.end(length);
        });
    }

    private static void feedAndEnd() {
        says("feed: twenty bytes come behind THE TAPE: how many it has; THE TAPE has 600 bytes at most; ROOM");
        for (int length : new int[] {0, 1, 20, 559, 560, 579, 580}) {
            Bounds.answers(tape(length), x -> x.feed(1, 2, 3, 4, 5), length + 20);
            Bounds.answers(tape(length), x -> x.feed(1, 2, 3, 4, 5) + x.count(9), 2 * length + 40);
        }
        for (int length : new int[] {581, 582, 599, 600}) {
            Bounds.refuses(tape(length), x -> x.feed(1, 2, 3, 4, 5), ROOM);
        }
        says("each number's highest first");
        Bounds.answers(HOUSE, x -> {
            x.feed(0x75736520, 0x303b6769, 0x7665206d, 0x6f6d656e, 0x743b2020);
            return x.query();
        }, 0);
        Bounds.answers(HOUSE, x -> {
            x.feed(0x75736520, 0x303b6769, 0x7665206d, 0x6f6d656e, 0x743b2058);
            return x.query();
        }, -219);
        Bounds.answers(HOUSE, x -> {
            x.feed(0x75736520, 0x303b6769, 0x7665206d, 0x6f6d656e, 0x743b20ff);
            return x.query();
        }, -219);

        says("end: THE TAPE keeps its first n bytes: n; OUTSIDE");
        for (int n : new int[] {0, 1, 13, 599, 600}) {
            Bounds.answers(tape(600), x -> x.end(n), n);
            Bounds.answers(Bounds.both(tape(600), x -> x.end(n)), x -> x.count(9), n);
        }
        for (int n : new int[] {-1, 601, Integer.MIN_VALUE, Integer.MAX_VALUE}) {
            Bounds.refuses(tape(600), x -> x.end(n), OUTSIDE);
        }
        Bounds.refuses(tape(13), x -> x.end(14), OUTSIDE);
        Bounds.answers(tape(13), x -> x.end(13) + x.query(), 13);
        Bounds.refuses(HOUSE, x -> x.end(1), OUTSIDE);
        Bounds.answers(HOUSE, x -> x.end(0), 0);
        Bounds.answers(Bounds.both(tape(600), x -> x.end(13)), x -> x.query(), 0);
        Bounds.answers(Bounds.both(tape(600), x -> x.end(12)), x -> x.query(), -212);
        Bounds.answers(Bounds.both(tape(6), x -> x.feed(0x67697665, 0x20613b20, 0x20202020, 0x20202020, 0x20202020)), x -> x.query(), 0);
    }

    private static void queries() {
        says("THE TAPE, which is empty then, is a QUERY: its number; QUERIES (8 at most)");
        Bounds.Maker seven = Bounds.both(HOUSE, x -> {
            for (int i = 0; i < 7; i++) {
                Bounds.due("query()", Bounds.ask(x, "use 0; give a;"), i);
            }
        });
        Bounds.answers(seven, x -> Bounds.ask(x, "use 0; give r;"), 7);
        says("a text with a FAULT is none of them");
        Bounds.answers(Bounds.both(seven, x -> Bounds.ask(x, "use 0; give zz;")), x -> Bounds.ask(x, "use 0; give r;"), 7);
        says("ROOM (asked first; THE TAPE stays)");
        Bounds.Maker eight = Bounds.both(seven, x -> Bounds.ask(x, "use 0; give moment;"));
        Bounds.refuses(Bounds.both(eight, x -> Bounds.tape(x, "use 0; give r;")), x -> x.query(), ROOM);
        Bounds.refuses(Bounds.both(eight, x -> Bounds.tape(x, "use 2;")), x -> x.query(), ROOM);
        Bounds.refuses(eight, x -> x.query(), ROOM);
        Bounds.answers(Bounds.both(eight, x -> {
            Bounds.tape(x, "use 2;");
            x.query();
        }), x -> x.count(9), 6);

        says("fault: the FAULT of the latest query() that was not refused; 0");
        Bounds.tells(Bounds.NEW, x -> x.fault(), 0);
        Bounds.answers(Bounds.both(HOUSE, x -> Bounds.ask(x, "use 2;")), x -> x.fault(), 3);
        Bounds.answers(Bounds.both(HOUSE, x -> {
            Bounds.ask(x, "use 2;");
            Bounds.ask(x, "use 0; give a;");
        }), x -> x.fault(), 0);
        Bounds.Maker fullBehindFault = Bounds.both(seven, x -> {
            Bounds.ask(x, "use 0; give r;");
            Bounds.tape(x, "use 2;");
            x.query();
        });
        Bounds.answers(fullBehindFault, x -> x.fault(), 0);
        Bounds.answers(Bounds.both(HOUSE, x -> {
            Bounds.ask(x, "use 2;");
            Bounds.tape(x, "use 0;");
            x.run(0);
            x.mark();
        }), x -> x.fault(), 3);
        Bounds.answers(Bounds.both(HOUSE, x -> {
            Bounds.ask(x, "use 2;");
            x.clear();
        }), x -> x.fault(), 0);

        says("-200 less the place of its FAULT (the end: THE TAPE's length)");
        Bounds.answers(HOUSE, x -> x.query(), -200);
        Bounds.answers(HOUSE, x -> Bounds.ask(x, "   "), -203);
        Bounds.answers(HOUSE, x -> Bounds.ask(x, times(600, " ")), -800);
        Bounds.answers(HOUSE, x -> Bounds.ask(x, times(599, " ") + ";"), -799);
        Bounds.answers(HOUSE, x -> Bounds.ask(x, "use 0; give a" + times(587, " ")), -800);
        Bounds.answers(HOUSE, x -> Bounds.ask(x, "use 0; give a" + times(586, " ") + ";"), 0);
    }

    // ---- TOKENS

    private static void tokens() {
        says("words (a to z, 1 to 10); other words of 1 to 6 letters are NAMES; FAULT 1: a word too long");
        right("use 0; where r is impossible; give a;");
        faulty("use 0; where r is ^impossibles; give a;", 1);
        faulty("use 0; where r is ^impossibl; give a;", 1);
        faulty("use 0; give ^abcdef;", 2);
        faulty("use 0; give ^abcdefg;", 1);
        faulty("use 0; give ^abcdefghij;", 1);
        faulty("use 0; give ^abcdefghijk;", 1);
        faulty("use 0; let ^abcdefg = 1; give a;", 1);
        right("use 0; let abcdef = 1; give abcdef;");
        faulty("^" + times(600, "u"), 1);
        says("TOKENS, each as long as can be");
        faulty("^usea 0; give a;", 1);
        faulty("use 0;^givea;", 1);
        faulty("use 0; give^0;", 1);
        right("use0;give a;");
        right("use 0;known5;give a;");
        right("use 0;where a<=3;give a;");
        Bounds.gives(HOUSE, "use 0;where a<=3;give a;", "3");
        Bounds.gives(HOUSE, "use 0;where a>=3;give a;", "3");
        faulty("use 0;where a< ^=3;give a;", 1);
        faulty("use 0;where a> ^=3;give a;", 1);
        faulty("use 0;where a=^<3;give a;", 1);
        faulty("use 0;where a=^>3;give a;", 1);
        faulty("use 0;where a=^=3;give a;", 1);
        faulty("use 0;where a<^<3;give a;", 1);
        faulty("use 0;where a<^>3;give a;", 1);
        faulty("use 0;where a<=^=3;give a;", 1);
        faulty("use 0;where a<" + "^", 1);

        says("WHOLES (1 to 12 digits)");
        right("use 0; known 9; give a;");
        right("use 0; known 999999999999; give a;");
        faulty("use 0; known ^9999999999990; give a;", 1);
        faulty("use 0; known ^1000000000000; give a;", 1);
        right("use 000000000000; give a;");
        right("use 000000000001; give b;");
        faulty("use ^0000000000000; give a;", 1);
        faulty("use 0; let u = ^1234567890123; give a;", 1);
        Bounds.gives(HOUSE, "use 0; let u = 123456789012; let v = 0; let w = 000000000012; give u, v, w;", "123456789012 0 12");
        faulty("use ^" + times(596, "0"), 1);

        says("REALS (1 to 9 digits, a point, 1 to 6 digits: all digits as one number, by 10.0 to as many as stand behind the point, as doubles)");
        String[] reals = {"0.0", "0.1", "1.5", "9.9", "0.000001", "123456789.123456", "999999999.999999", "000000001.500000", "123456789.1", "0.3", "0.7",
            "2.675", "1.005", "100000000.000001"};
        for (String real : reals) {
            int behind = real.length() - real.indexOf('.') - 1;
            double want = (double) Long.parseLong(real.replace(".", "")) / Math.pow(10.0, behind);
            Bounds.gives(HOUSE, "use 0; let u = " + real + "; let v = -" + real + "; give u, v;", want + " " + -want);
        }
        faulty("use 0; let u = ^1.1234567; give a;", 1);
        faulty("use 0; let u = ^123456789.1234567; give a;", 1);
        faulty("use 0; let u = ^0.0000000; give a;", 1);
        faulty("use 0; let u = 1234567890^.1; give a;", 1);
        faulty("use 0; let u = 123456789012^.1; give a;", 1);
        faulty("use 0; let u = ^1234567890123.1; give a;", 1);
        faulty("use 0; let u = 1234567890^.1234567; give a;", 1);
        faulty("use 0; let u = 1^.; give a;", 1);
        faulty("use 0; let u = 1^.a; give a;", 1);
        faulty("use 0; let u = 1^. 5; give a;", 1);
        faulty("use 0; let u = 1 ^.5; give a;", 1);
        faulty("use 0; let u = ^.5; give a;", 1);
        faulty("use 0; let u = 1^..5; give a;", 1);
        faulty("use 0; let u = 1.5^.5; give a;", 1);
        faulty("use 0; let u = 1^.", 1);
        faulty("use 0; let u = 1.5^", 1);
        right("use 0;let u=1.5;give a;");
        faulty("use 0; let u = 1.5^a; give a;", 1);
        faulty("use ^2.5; give a;", 1);
        faulty("use 0; known ^1.5; give a;", 1);
        faulty("use 0; from ^1.5 to 2; give a;", 1);
        faulty("use 0; from 1 to ^2.5; give a;", 1);
        faulty("use 0; span count ^2.5; give count a;", 1);
        faulty("use 0; group all; give quant ^2.5 a;", 1);

        says("what stands behind THE TAPE's end is no part of a TOKEN, whatever was there; nor is there anything behind 600 bytes");
        String[][] cut = {{"use 0; let u = 1^.", "5"}, {"use 0; let u = 1^", ".5"}, {"use 0; where a <^", "="}, {"use 0; where a >^", "= 1"}, {"use 0; give^", "n"},
            {"use 0; let u = 1.5^", "5"}, {"^us", "e"}, {"use 0; where a is^", " there"}};
        for (String[] text : cut) {
            String bare = text[0].replace("^", "");
            int place = text[0].indexOf('^');
            Bounds.answers(HOUSE, x -> {
                Bounds.tape(x, bare + text[1]);
                x.end(bare.length());
                return x.query();
            }, -200 - place);
            Bounds.answers(HOUSE, x -> Bounds.ask(x, times(600 - bare.length(), " ") + bare), -200 - (600 - bare.length() + place));
        }
        right("use 0; give a" + times(586, "\n") + ";");
        faulty(times(594, " ") + "use 0;^", 1);

        says("blanks (32, 10) between as one likes; FAULT 1: no TOKEN begins there");
        for (int b = 0; b < 256; b++) {
            if (b == 32 || b == 10) {
                right("use 0;" + (char) b + "give a;");
                right((char) b + "use 0;give a;" + (char) b);
                faulty("^us" + (char) b + "e 0; give a;", 1);
                faulty("use 0; let u = 1" + (char) b + "^1; give a;", 1);
            } else if (b != '^') {
                faulty("use 0;^" + (char) b + "give a;", 1);
                faulty("use 0; give a; ^" + (char) b, 1);
            }
        }
        Bounds.answers(HOUSE, x -> Bounds.ask(x, "use 0;^give a;"), -206);
        right("use 0\n;\n\n give\n a \n;\n");
        right("\n \n use 0;give a;");
        faulty("use 0;give a;\n^;", 1);
    }

    // ---- the grammar

    private static final String[] CLAUSES = {"use 0;", "known 5;", "from 1 to 9;", "join 1 near 5;", "let u = 1;", "fill a 1;", "where a = 3;", "group all;",
        "give count a;"};

    private static void clauses() {
        says("QUERY: the clauses in their order, those in ~ ~ or { } or not");
        for (int mask = 0; mask < 128; mask++) {
            StringBuilder text = new StringBuilder(CLAUSES[0]);
            for (int i = 0; i < 6; i++) {
                text.append((mask >> i & 1) == 1 ? " " + CLAUSES[i + 1] : "");
            }
            right(text + ((mask >> 6 & 1) == 1 ? " group all; give count a;" : " give a;"));
        }
        says("FAULT 1: a TOKEN that can not stand there");
        for (int i = 1; i < CLAUSES.length - 1; i++) {
            for (int j = 0; j < i; j++) {
                faulty("use 0; " + (j == 0 ? "" : CLAUSES[i] + " ^" + CLAUSES[j]) + (j == 0 ? CLAUSES[i] + " ^use 0;" : "") + " give a;", 1);
            }
            boolean many = i == 4 || i == 5;
            String again = i == 4 ? "let v = 1;" : CLAUSES[i];
            if (many) {
                right("use 0; " + CLAUSES[i] + " " + again + " give a;");
            } else {
                faulty("use 0; " + CLAUSES[i] + " ^" + again + " give a;", 1);
            }
            faulty("^" + CLAUSES[i] + " use 0; give a;", 1);
        }
        faulty("use 0; group all; ^sort a; give count a;", 1);
        faulty("use 0; sort a; ^span count 5; give a;", 1);
        faulty("use 0; span count 5; ^group a; give count a;", 1);
        faulty("use 0; give a; ^give a;", 1);
        faulty("use 0; give a;^;", 1);
        faulty("use 0; ^", 1);
        faulty("^give a;", 1);
        faulty("use 0; ^; give a;", 1);

        says("FAULT 1: the end: THE TAPE's length");
        String[] full = {
            "use 0 ; known 5 ; from - 1 to 9 ; join 1 on a b ; let u = a + 1.5 * ( r - 2 ) / min ( 1 , 2 ) ; let v = - abs ( a ) % 3 ; fill a last ; "
                + "fill r line ; fill r - 1.5 ; where not a is there or [ a >= 3 and u unlike 2 ] ; group a , r ; give a , moment , sum z , quant 5 z ;",
            "use 1 ; join 0 near 5 ; span time 5 ; give count a ;",
            "use 1 ; span count 5 ; give count b ;",
            "use 1 ; sort b down missing first impossible first , t ; give diff b , cum t , b ;"};
        for (String text : full) {
            right(text);
            right(text.replace(" ; ", ";"));
            String[] words = text.split(" ");
            StringBuilder ahead = new StringBuilder();
            for (String word : words) {
                if (ahead.length() > 0) {
                    faulty(ahead.toString().trim() + "^", 1);
                    faulty(ahead + "   \n^", 1);
                    faulty(ahead + "^#" + text.substring(ahead.length()), 1);
                }
                ahead.append(word).append(' ');
            }
        }
    }

    private static void grammar() {
        says("KEY: NAME ~down~ ~missing first~ ~impossible first~");
        for (String how : new String[] {"", " down", " missing first", " impossible first", " down missing first", " down impossible first",
            " missing first impossible first", " down missing first impossible first"}) {
            right("use 0; sort a" + how + ", r" + how + "; give a;");
        }
        faulty("use 0; sort a ^first; give a;", 1);
        faulty("use 0; sort a missing^; give a;", 1);
        faulty("use 0; sort a impossible^, r; give a;", 1);
        faulty("use 0; sort a missing ^down first; give a;", 1);
        faulty("use 0; sort a missing first ^down; give a;", 1);
        faulty("use 0; sort a impossible first ^missing first; give a;", 1);
        faulty("use 0; sort a down ^down; give a;", 1);
        faulty("use 0; sort ^down a; give a;", 1);
        faulty("use 0; sort ^moment; give a;", 1);
        faulty("use 0; sort ^; give a;", 1);
        faulty("use 0; sort a,^; give a;", 1);
        faulty("use 0; sort a ^r; give a;", 1);
        faulty("use 0; sort ^all; give a;", 1);
        faulty("use 0; group ^; give count a;", 1);
        faulty("use 0; group a,^; give count a;", 1);
        faulty("use 0; group all^, a; give count a;", 1);
        faulty("use 0; group a, ^all; give count a;", 1);
        faulty("use 0; group ^moment; give count a;", 1);
        faulty("use 0; group a ^down; give count a;", 1);

        says("LINK: WHOLE on NAME NAME / WHOLE near WHOLE");
        faulty("use 0; join ^on a b; give a;", 1);
        faulty("use 0; join 1 ^a b; give a;", 1);
        faulty("use 0; join 1 on a^, b; give a;", 1);
        faulty("use 0; join 1 on a^; give a;", 1);
        faulty("use 0; join 1 near ^a; give a;", 1);
        faulty("use 0; join 1 near ^-5; give a;", 1);
        faulty("use 0; join 1^; give a;", 1);
        faulty("use 0; join 1 on ^moment b; give a;", 1);

        says("INT, NUM: a WHOLE, perhaps - before it; NUM also a REAL, likewise");
        right("use 0; from 0 to 0; give a;");
        right("use 0; from -1 to - 1; give a;");
        right("use 0; fill a -1; fill r -1.5; fill r 1.5; give a;");
        faulty("use 0; from - ^-1 to 1; give a;", 1);
        faulty("use 0; from ^+1 to 1; give a;", 1);
        faulty("use 0; from 1 to -^to; give a;", 1);
        faulty("use 0; from 1^, 2; give a;", 1);
        faulty("use 0; known ^-1; give a;", 1);
        faulty("use ^-0; give a;", 1);
        faulty("use 0; fill a - ^-1; give a;", 1);
        faulty("use 0; fill a - ^last; give a;", 1);
        faulty("use 0; fill a ^(1); give a;", 1);
        faulty("use 0; fill a ^first; give a;", 1);
        faulty("use 0; fill a ^moment; give a;", 1);
        faulty("use 0; fill a ^a; give a;", 1);
        faulty("use 0; fill a^; give a;", 1);
        faulty("use 0; fill ^moment 1; give a;", 1);
        faulty("use 0; fill a ^= 1; give a;", 1);
        faulty("use 0; fill a last ^1; give a;", 1);

        says("COND, BOTH, TEST");
        right("use 0; where a = 1 or a = 2 and a = 3 or not not a = 4; give a;");
        right("use 0; where [a = 1] and [[a = 1] or not [a is there]]; give a;");
        right("use 0; let u = 1; where u is there and u is missing and u is beyond and u is other and u is impossible; give a;");
        faulty("use 0; where (a) ^is there; give a;", 1);
        faulty("use 0; where 1 ^is there; give a;", 1);
        faulty("use 0; where moment ^is there; give a;", 1);
        faulty("use 0; where a + a ^is there; give a;", 1);
        faulty("use 0; where a is ^first; give a;", 1);
        faulty("use 0; where a is ^a; give a;", 1);
        faulty("use 0; where a is ^not there; give a;", 1);
        faulty("use 0; where a is there ^there; give a;", 1);
        faulty("use 0; where a is there ^= 1; give a;", 1);
        faulty("use 0; where (a ^= 1); give a;", 1);
        faulty("use 0; where [a^] = 1; give a;", 1);
        faulty("use 0; where [a = 1^; give a;", 1);
        faulty("use 0; where [a = 1^) ; give a;", 1);
        faulty("use 0; where a = 1 ^= 1; give a;", 1);
        faulty("use 0; where a = 1 ^not a = 2; give a;", 1);
        faulty("use 0; where a = 1 or ^or a = 2; give a;", 1);
        faulty("use 0; where a = 1 and^; give a;", 1);
        faulty("use 0; where not^; give a;", 1);
        faulty("use 0; where a ^and a = 1; give a;", 1);
        faulty("use 0; where a^; give a;", 1);
        faulty("use 0; where ^; give a;", 1);
        faulty("use 0; where ^= 1; give a;", 1);
        faulty("use 0; where a unlike ^unlike 1; give a;", 1);
        faulty("use 0; where ^unlike 1; give a;", 1);
        faulty("use 0; where ^is there; give a;", 1);
        faulty("use 0; where a = ^or a = 1; give a;", 1);
        faulty("use 0; where a = ^and a = 1; give a;", 1);
        faulty("use 0; where a = 1 + ^or a = 1; give a;", 1);
        faulty("use 0; where [a = ^or a = 1]; give a;", 1);
        faulty("use 0; where a = ^not a = 1; give a;", 1);
        faulty("use 0; where a = 1 or ^and a = 1; give a;", 1);
        faulty("use 0; where ^all = 1; give a;", 1);

        says("EXP, TERM, ONE, FUN");
        right("use 0; let u = --a - -1 * -(a) + ((moment)) % 2 / 3; give u;");
        right("use 0; let u = abs(floor(ceil(round(sign(a))))) + min(1, max(a, 2)); give u;");
        faulty("use 0; let u = ^+a; give a;", 1);
        faulty("use 0; let u = a +^; give a;", 1);
        faulty("use 0; let u = a + ^* a; give a;", 1);
        faulty("use 0; let u = a ^a; give a;", 1);
        faulty("use 0; let u = (a^; give a;", 1);
        faulty("use 0; let u = a^); give a;", 1);
        faulty("use 0; let u = (^); give a;", 1);
        faulty("use 0; let u = (a^, a); give a;", 1);
        faulty("use 0; let u = ^[a]; give a;", 1);
        faulty("use 0; let u = (a^]; give a;", 1);
        faulty("use 0; let u = abs ^a; give a;", 1);
        faulty("use 0; let u = abs(^); give a;", 1);
        faulty("use 0; let u = abs(a^, a); give a;", 1);
        faulty("use 0; let u = abs^; give a;", 1);
        faulty("use 0; let u = min ^a; give a;", 1);
        faulty("use 0; let u = min(a^); give a;", 1);
        faulty("use 0; let u = max(a ^a); give a;", 1);
        faulty("use 0; let u = min(a, a^, a); give a;", 1);
        faulty("use 0; let u = max(^, a); give a;", 1);
        faulty("use 0; let u = max(a, ^); give a;", 1);
        faulty("use 0; let u = moment^(1); give a;", 1);
        faulty("use 0; let u = a^(1); give a;", 1);
        faulty("use 0; let u = ^count; give a;", 1);
        faulty("use 0; let u = ^sum a; give a;", 1);
        faulty("use 0; let u = a ^= 1; give a;", 1);
        faulty("use 0; let u = ^not a; give a;", 1);
        faulty("use 0; let u ^1; give a;", 1);
        faulty("use 0; let ^= 1; give a;", 1);
        faulty("use 0; let ^1 = 1; give a;", 1);
        faulty("use 0; let ^moment = 1; give a;", 1);
        faulty("use 0; let ^use = 1; give a;", 1);
        says("a word that is no WORD is a NAME: the sign is written /");
        faulty("use 0; let u = a ^slash a; give a;", 1);
    }

    private static void items() {
        String[] alone = {"diff", "cum"};
        String[] grouped = {"count", "missing", "beyond", "other", "impossible", "sum", "ksum", "mean", "var", "least", "great", "median", "first", "last",
            "slope", "base", "quant 5"};
        String[] never = {"abs", "floor", "there", "min", "max", "sign", "line", "all", "use", "time", "down"};
        String[] shapes = {"group all; ", "group a; ", "span count 5; ", "span time 5; "};
        says("ITEM: ACT: diff cum, without group and span; with them: count missing .. base (and quant)");
        for (String act : alone) {
            right("use 0; give " + act + " a;");
            right("use 0; sort a; give " + act + " a;");
            for (String shape : shapes) {
                faulty("use 0; " + shape + "give ^" + act + " a;", 1);
            }
        }
        for (String act : grouped) {
            faulty("use 0; give ^" + act + " a;", 1);
            faulty("use 0; sort a; give ^" + act + " a;", 1);
            for (String shape : shapes) {
                right("use 0; " + shape + "give " + act + " z;");
                right("use 0; let u = 1; " + shape + "give " + act + " u;");
                faulty("use 0; " + shape + "give " + act + " ^moment;", 1);
                faulty("use 0; " + shape + "give " + act + "^;", 1);
                faulty("use 0; " + shape + "give " + act + " ^zz;", 2);
                faulty("use 0; " + shape + "give " + act + " ^b;", 2);
            }
        }
        for (String act : never) {
            faulty("use 0; give ^" + act + " a;", 1);
            faulty("use 0; group all; give ^" + act + " a;", 1);
        }
        for (String shape : shapes) {
            right("use 0; " + shape + "give moment;");
            right("use 0; " + shape + "give moment, moment;");
        }
        right("use 0; give moment, a, a;");
        faulty("use 0; group all; give quant ^a;", 1);
        faulty("use 0; group all; give quant ^-5 a;", 1);
        faulty("use 0; group all; give quant 5 ^5 a;", 1);
        faulty("use 0; group all; give sum ^5 a;", 1);
        faulty("use 0; group all; give count ^count a;", 1);
        faulty("use 0; give a ^a;", 1);
        faulty("use 0; give a,^;", 1);
        faulty("use 0; give ^, a;", 1);
        faulty("use 0; give ^;", 1);
        faulty("use 0; give ^1;", 1);
        faulty("use 0; give ^(a);", 1);
        faulty("use 0; give ^-a;", 1);
        faulty("use 0; give a ^+ 1;", 1);
    }

    // ---- FAULTS 2 to 4

    private static void unknownNames() {
        says("2 a NAME that is no COLUMN of the SERIES that are used (that of join from behind it on) and no let ahead");
        String[] ahead = {"let u = ", "let u = 1 + ", "fill ", "where ", "where 1 = ", "where not ", "group ", "group a, ", "sort ", "sort a, ", "give ", "give a, ",
            "give diff ", "give cum ", "group all; give count ", "group all; give quant 5 ", "span count 5; give sum "};
        for (String text : ahead) {
            faulty("use 0; " + text + "^zz", 2);
            faulty("use 0; " + text + "^b", 2);
            faulty("use 1; " + text.replace("a,", "b,").replace("give a", "give b") + "^a", 2);
            faulty("use 0; join 1 near 5; " + text + "^zz", 2);
            faulty("use 0; join 1 near 5; " + text + "b^", 1);
            faulty("use 0; join 1 on a b; " + text + "t^", 1);
            faulty("use 1; join 0 near 5; " + text + "a^", 1);
        }
        faulty("use 0; where ^zz is there; give a;", 2);
        faulty("use 0; where ^b is there; give a;", 2);
        says("join on A B: A of the SERIES used, B of the other one");
        right("use 0; join 1 on a b; give a, b;");
        right("use 1; join 0 on b a; give a, b;");
        faulty("use 0; join 1 on ^b b; give a;", 2);
        faulty("use 0; join 1 on ^b a; give a;", 2);
        faulty("use 0; join 1 on a ^a; give a;", 2);
        faulty("use 0; join 1 on ^zz b; give a;", 2);
        faulty("use 0; join 1 on a ^zz; give a;", 2);
        says("no let ahead");
        faulty("use 0; let u = ^u; give u;", 2);
        faulty("use 0; let u = ^v; let v = 1; give u;", 2);
        right("use 0; let u = 1; let v = u; fill u 1; where u = v; group u, v; give u, v, sum u;");
        right("use 0; let u = 1; sort u; give u, diff u;");
        faulty("use 0; let u = ^slash; give u;", 2);

        says("a let's that is one, or any COLUMN's");
        faulty("use 0; let u = 1; let ^u = 2; give u;", 2);
        faulty("use 0; let ^a = 2; give a;", 2);
        faulty("use 0; let ^b = 2; give a;", 2);
        faulty("use 0; join 1 near 5; let ^b = 2; give a;", 2);
        faulty("use 1; let ^a = 2; give b;", 2);
        right("use 0; let aa = 2; give aa;");

        says("an ITEM that is a NAME alone, with group NAME, but none of its; with group all or span any");
        right("use 0; group a; give a;");
        right("use 0; group a, r; give r, a, r;");
        faulty("use 0; group a; give ^r;", 2);
        faulty("use 0; group r; give ^a;", 2);
        faulty("use 0; group r, z; give r, z, ^a;", 2);
        faulty("use 0; group a, r; give a, ^z;", 2);
        right("use 0; let u = 1; group u; give u;");
        faulty("use 0; let u = 1; group a; give ^u;", 2);
        faulty("use 0; group all; give ^a;", 2);
        faulty("use 0; group all; give ^zz;", 2);
        faulty("use 0; span count 5; give ^a;", 2);
        faulty("use 0; span time 5; give ^a;", 2);
        faulty("use 0; let u = 1; group all; give ^u;", 2);
        right("use 0; sort a; give r;");

        says("of it the least: a NAME that can not stand there is 1, known or not");
        faulty("use 0; ^zz; give a;", 1);
        faulty("use 0; known ^zz; give a;", 1);
        faulty("use 0; join 1 near ^zz; give a;", 1);
        faulty("use 0; group all; give quant ^zz a;", 1);
        faulty("use 0; give a ^zz;", 1);
        says("the first TOKEN that has one");
        faulty("use ^2; give zz;", 3);
        faulty("use 0; let u = ^zz + 1.1234567; give a;", 2);
        faulty("use 0; fill ^zz 1.5; where #; give a;", 2);
    }

    private static void wholesOutOfBounds() {
        String most = "999999999999";
        says("3 a WHOLE out of its bounds: use, join: 0, 1 (join: the other one)");
        right("use 0; give a;");
        right("use 1; give b;");
        faulty("use ^2; give a;", 3);
        faulty("use ^" + most + "; give a;", 3);
        right("use 0; join 1 near 1; give a;");
        right("use 1; join 0 near 1; give a;");
        faulty("use 0; join ^0 near 1; give a;", 3);
        faulty("use 1; join ^1 near 1; give a;", 3);
        faulty("use 0; join ^2 near 1; give a;", 3);
        faulty("use 1; join ^2 on b a; give a;", 3);

        says("known, from, to: 1000000000000 at most (to: not below from, at the digits)");
        right("use 0; known 0; give a;");
        right("use 0; known " + most + "; give a;");
        right("use 0; from -" + most + " to " + most + "; give a;");
        right("use 0; from " + most + " to " + most + "; give a;");
        right("use 0; from - " + most + " to -" + most + "; give a;");
        right("use 0; from 5 to 5; give a;");
        right("use 0; from 5 to 6; give a;");
        faulty("use 0; from 5 to ^4; give a;", 3);
        faulty("use 0; from 5 to -^5; give a;", 3);
        faulty("use 0; from -5 to - ^6; give a;", 3);
        right("use 0; from -5 to -4; give a;");
        right("use 0; from -5 to -5; give a;");
        right("use 0; from 0 to -0; give a;");
        right("use 0; from -0 to 0; give a;");
        faulty("use 0; from 0 to -^1; give a;", 3);
        faulty("use 0; from 1 to ^0; give a;", 3);

        says("near, span time: 1 to 1000000000000");
        faulty("use 0; join 1 near ^0; give a;", 3);
        right("use 0; join 1 near 1; give a;");
        right("use 0; join 1 near " + most + "; give a;");
        faulty("use 0; span time ^0; give count a;", 3);
        right("use 0; span time 1; give count a;");
        right("use 0; span time 101; give count a;");
        right("use 0; span time " + most + "; give count a;");

        says("span count: 1 to 100; quant: 0 to 100");
        faulty("use 0; span count ^0; give count a;", 3);
        right("use 0; span count 1; give count a;");
        right("use 0; span count 100; give count a;");
        faulty("use 0; span count ^101; give count a;", 3);
        faulty("use 0; span count ^" + most + "; give count a;", 3);
        right("use 0; group all; give quant 0 a;");
        right("use 0; group all; give quant 100 a;");
        faulty("use 0; group all; give quant ^101 a;", 3);
        faulty("use 0; group all; give quant ^101 zz;", 3);
        faulty("use 0; group all; give quant ^" + most + " a;", 3);
    }

    private static void realForWhole() {
        says("4 fill of a WHOLE NAME by a REAL (at that)");
        for (String whole : new String[] {"a", "m", "c", "k", "z", "q"}) {
            faulty("use 0; fill " + whole + " ^1.5; give a;", 4);
            faulty("use 0; fill " + whole + " - ^1.5; give a;", 4);
            faulty("use 0; fill " + whole + " ^1.0; give a;", 4);
            right("use 0; fill " + whole + " 1; give a;");
            right("use 0; fill " + whole + " last; fill " + whole + " line; fill " + whole + " 1.5; give a;");
            faulty("use 0; fill " + whole + " last; fill " + whole + " ^1.5; give a;", 4);
        }
        for (String real : new String[] {"r", "s", "h"}) {
            right("use 0; fill " + real + " 1.5; fill " + real + " -1.5; fill " + real + " 1; give a;");
        }
        says("A NAME is WHOLE or REAL: of a let as its EXP: WHOLE of WHOLES alone; moment is WHOLE. Behind fill line it is REAL");
        String[] wholes = {"1", "a", "moment", "-a", "a / 2", "a % z", "abs(a)", "floor(a)", "ceil(a)", "round(a)", "sign(a)", "min(a, 2)", "max(1, moment)",
            "(a)", "q", "k", "m + k - 1", "(c)"};
        for (String exp : wholes) {
            faulty("use 0; let u = " + exp + "; fill u ^1.5; give u;", 4);
            isReal("let u = " + exp + "; give u", "0");
        }
        String[] reals = {"1.0", "r", "-r", "a + 1.0", "1.0 * a", "a - r", "a % 2.0", "abs(r)", "floor(1.5)", "ceil(r)", "round(r)", "sign(r)", "min(a, r)",
            "max(r, a)", "min(1, 2.0)", "s", "h", "a + (1 + (2 - 1.0))", "1.0 + a + a", "a * a * 1.0", "a + 1.0 * a"};
        for (String exp : reals) {
            right("use 0; let u = " + exp + "; fill u 1.5; give u;");
            isReal("let u = " + exp + "; give u", "1");
        }
        isReal("let u = 1; let v = u; let w = u + 1.0; let x = w; give u, v, w, x", "0011");
        isReal("fill a line; give a, z", "10");
        isReal("let u = a; fill a line; give u, a", "01");
        isReal("let u = 1; fill u line; give u", "1");
        isReal("fill a last; give a", "0");

        says("ITEMS are WHOLE: count, missing, beyond, other, impossible, moment; diff, cum, sum, least, great, first, last, quant, NAMES as the NAME; else REAL");
        isReal("give moment, a, diff a, cum a, diff r, cum r", "000011");
        isReal("group all; give count r, missing r, beyond r, other r, impossible r, moment", "000000");
        isReal("group all; give sum a, least a, great a, first a, last a, quant 5 a", "000000");
        isReal("group all; give sum r, least r, great r, first r, last r, quant 5 r", "111111");
        isReal("group all; give ksum a, mean a, var a, median a, slope a, base a", "111111");
        isReal("fill a line; group all; give sum a, least a, first a, quant 5 a, count a", "11110");
        isReal("fill a line; group a; give a", "1");
    }

    /** The answers of real(j), ITEM by ITEM. */
    private static void isReal(String text, String want) {
        GapHouse x = Bounds.made(HOUSE);
        int q = Bounds.ask(x, "use 0; " + text + ";");
        x.run(q);
        StringBuilder got = new StringBuilder();
        for (int j = 0; j < x.ended(3); j++) {
            got.append(x.real(j));
        }
        Bounds.due(text + ": which are REAL", got.toString(), want);
        Bounds.due("one more", x.real(want.length()), Bounds.UNKNOWN);
        Bounds.due("one less", x.real(-1), Bounds.UNKNOWN);
    }

    // ---- FAULT 5

    private static void oneTooMany() {
        String[] lets = {"let u = 1; ", "let v = 1; ", "let w = 1; ", "let x = 1; "};
        String four = String.join("", lets);
        says("5 one too many: the 5th let, the 4th fill (at the word)");
        right("use 0; " + four + "give x;");
        faulty("use 0; " + four + "^let y = 1; give a;", 5);
        faulty("use 0; " + four + "^let u = 1; give a;", 5);
        faulty("use 0; " + four + "^let", 5);
        faulty("use 0; " + four + "^let y = zz; give a;", 5);
        right("use 0; fill a 1; fill a 2; fill r 3; give a;");
        faulty("use 0; fill a 1; fill a 2; fill r 3; ^fill a 4; give a;", 5);
        faulty("use 0; fill a 1; fill a 2; fill r 3; ^fill zz 1.5;", 5);
        right("use 0; " + four + "fill a 1; fill a 2; fill r 3; give a;");

        says("the 3rd NAME of group, the 4th KEY, the 7th ITEM (each at its first TOKEN behind the word or comma)");
        right("use 0; group a, r; give count a;");
        right("use 0; group a, a; give count a;");
        faulty("use 0; group a, r, ^z; give count a;", 5);
        faulty("use 0; group a, a, ^a; give count a;", 5);
        faulty("use 0; group a, r, ^zz; give count a;", 2);
        faulty("use 0; group a, r, ^b; give count a;", 2);
        faulty("use 0; group a, r, ^; give count a;", 1);
        faulty("use 0; group a, r, ^all; give count a;", 1);
        right("use 0; sort a, r, z; give a;");
        right("use 0; sort a down, a missing first, a impossible first; give a;");
        faulty("use 0; sort a, r, z, ^k; give a;", 5);
        faulty("use 0; sort a, a, a, ^a down; give a;", 5);
        faulty("use 0; sort a, r, z, ^zz; give a;", 2);
        faulty("use 0; sort a, r, z, ^down; give a;", 1);
        faulty("use 0; sort a, r, z,^; give a;", 1);
        right("use 0; give a, a, a, a, a, a;");
        right("use 0; give a, r, moment, diff a, cum a, z;");
        faulty("use 0; give a, a, a, a, a, a, ^a;", 5);
        faulty("use 0; give a, a, a, a, a, a, ^moment;", 5);
        faulty("use 0; give a, a, a, a, a, a, ^diff a;", 5);
        faulty("use 0; give a, a, a, a, a, a, ^diff zz;", 5);
        faulty("use 0; give a, a, a, a, a, a, ^zz;", 2);
        faulty("use 0; give a, a, a, a, a, a, ^sum a;", 1);
        faulty("use 0; give a, a, a, a, a, a,^;", 1);
        right("use 0; group all; give count a, count a, count a, count a, count a, quant 5 a;");
        faulty("use 0; group all; give count a, count a, count a, count a, count a, count a, ^quant 101 a;", 5);
        faulty("use 0; group all; give count a, count a, count a, count a, count a, count a, ^a;", 2);
        faulty("use 0; group all; give count a, count a, count a, count a, count a, count a, ^diff a;", 1);
        faulty("use 0; group a; give a, a, a, a, a, a, ^a;", 5);
        faulty("use 0; group a; give a, a, a, a, a, a, ^r;", 2);
    }

    private static void columnsRead() {
        says("the 9th COLUMN that is read (at the NAME; by SCALED, DERIVED ones, too, all that they are over count)");
        String eight = "let v = aa + ab + ac + ad + ae + af + ag + ah; ";
        Bounds.right(MANY, "use 0; " + eight + "give aa, ah, v;");
        String[] ahead = {"let w = 1 + ", "fill ", "where ", "group ", "sort ", "give ", "give diff ", "group all; give count "};
        for (String text : ahead) {
            Bounds.faulty(MANY, "use 0; " + eight + text + "^ai", 5);
            Bounds.faulty(MANY, "use 0; " + eight + text + "aa^", 1);
            Bounds.faulty(MANY, "use 0; " + eight + text + "^zz", 2);
        }
        Bounds.faulty(MANY, "use 0; " + eight + "where ^ai is there; give aa;", 5);
        Bounds.faulty(MANY, "use 0; " + eight + "give aa, ^ai;", 5);
        Bounds.right(MANY, "use 0; let v = aa + ab + ac + ad + ae + af + ag; give v, ai;");
        Bounds.right(MANY, "use 0; let v = aa + ab + ac + ad + ae + af + ag; give s;");
        Bounds.faulty(MANY, "use 0; " + eight + "give ^s;", 5);
        Bounds.right(MANY, "use 0; let v = ac + ad + ae + af + ag + ah; give s;");
        Bounds.faulty(MANY, "use 0; let v = ac + ad + ae + af + ag + ah + ai; give ^s;", 5);
        Bounds.right(MANY, "use 0; let v = ac + ad + ae + af + ag; give t;");
        Bounds.faulty(MANY, "use 0; let v = ac + ad + ae + af + ag + ah; give ^t;", 5);
        Bounds.right(MANY, "use 0; let v = ac + ad + ae + af; give u;");
        Bounds.faulty(MANY, "use 0; let v = ac + ad + ae + af + ag; give ^u;", 5);
        Bounds.right(MANY, "use 0; let v = s + t + u + ac + ad + ae; give aa, ab;");
        Bounds.faulty(MANY, "use 0; let v = s + t + u + ac + ad + ae; give aa, ab, ^af;", 5);
        Bounds.right(MANY, "use 0; join 1 on aa bb; let v = ac + ad + ae + af + ag + ah; give aa;");
        Bounds.faulty(MANY, "use 0; join 1 on aa bb; let v = ac + ad + ae + af + ag + ah + ^ai; give aa;", 5);
        Bounds.right(MANY, "use 0; join 1 on t bb; let v = ac + ad + ae + af; give aa;");
        Bounds.faulty(MANY, "use 0; join 1 on t bb; let v = ac + ad + ae + af + ^ag; give aa;", 5);
        says("a NAME that can not stand alone there is 2, the 9th or not");
        Bounds.faulty(MANY, "use 0; " + eight + "group aa; give ^ai;", 2);
        Bounds.faulty(MANY, "use 0; " + eight + "group all; give ^ai;", 2);
        says("what lets are made of counts once, lets do not count");
        Bounds.right(MANY, "use 0; " + eight + "let w = v + v; let x = w; give v, w, x, aa;");
    }

    /** What may be the 31st of the signs and words that count, with what stands ahead of it and behind it. */
    private static List<String[]> counted() {
        List<String[]> all = new ArrayList<>();
        for (String sign : new String[] {"+", "-", "*", "/", "%"}) {
            all.add(new String[] {"let y = 1 ", sign, " 1; "});
        }
        all.add(new String[] {"let y = ", "-", " 1; "});
        all.add(new String[] {"let y = (", "-", " 1); "});
        for (String fun : new String[] {"abs", "floor", "ceil", "round", "sign"}) {
            all.add(new String[] {"let y = ", fun, "(1); "});
        }
        all.add(new String[] {"let y = ", "min", "(1, 1); "});
        all.add(new String[] {"let y = ", "max", "(1, 1); "});
        for (String rel : new String[] {"=", "<", "<=", ">", ">=", "unlike"}) {
            all.add(new String[] {"where a ", rel, " 1; "});
        }
        all.add(new String[] {"where a ", "is", " there; "});
        return all;
    }

    private static void signsAndWords() {
        says("the 31st of signs between two, - of one, FUNS, min, max, RELS, is, not, or, and");
        for (String[] one : counted()) {
            String text = one[0] + one[1] + one[2];
            right("use 0; let u = 1" + times(29, "+1") + "; " + text + "give a;");
            faulty("use 0; let u = 1" + times(30, "+1") + "; " + one[0] + "^" + one[1] + one[2] + "give a;", 5);
        }
        right("use 0; let u = 1" + times(28, "+1") + "; where not a is there; give a;");
        faulty("use 0; let u = 1" + times(29, "+1") + "; where not a ^is there; give a;", 5);
        faulty("use 0; let u = 1" + times(30, "+1") + "; where ^not a is there; give a;", 5);
        right("use 0; let u = 1" + times(27, "+1") + "; where a = 1 or a = 2; give a;");
        faulty("use 0; let u = 1" + times(28, "+1") + "; where a = 1 or a ^= 2; give a;", 5);
        faulty("use 0; let u = 1" + times(29, "+1") + "; where a = 1 ^or a = 2; give a;", 5);
        right("use 0; let u = 1" + times(27, "+1") + "; where a = 1 and a = 2; give a;");
        faulty("use 0; let u = 1" + times(28, "+1") + "; where a = 1 and a ^unlike 2; give a;", 5);
        faulty("use 0; let u = 1" + times(29, "+1") + "; where a = 1 ^and a = 2; give a;", 5);
        right("use 0; let u = 1+1; where a = 1" + times(14, " or a = 1") + "; give a;");
        faulty("use 0; let u = 1+1; where a = 1" + times(14, " or a = 1") + " ^or a = 1; give a;", 5);
        faulty("use 0; let u = 1" + times(30, "+1") + "^+1; give a;", 5);
        faulty("use 0; let u = 1" + times(30, "+1") + "^-1; give a;", 5);
        right("use 0; let u = 1" + times(30, "+1") + "; give a;");
        says("it counts all over the text: lets and where together");
        right("use 0; let u = 1" + times(10, "+1") + "; let v = 1" + times(10, "*1") + "; let w = 1" + times(10, "%1") + "; give a;");
        faulty("use 0; let u = 1" + times(10, "+1") + "; let v = 1" + times(10, "*1") + "; let w = 1" + times(10, "%1") + "^/1; give a;", 5);
        says("( ) [ ] , and the signs that stand between no two do not count");
        right("use 0; let u = 1" + times(29, "+(1)") + "; fill a -1; where [a = 1]; sort a, r, z; give a, r;");
        says("of it the least: a sign that can not stand there is 1, the 31st or not");
        faulty("use 0; let u = 1" + times(30, "+1") + "; let v = ^+1; give a;", 1);
        faulty("use 0; let u = 1" + times(30, "+1") + "; let v = 1 ^= 1; give a;", 1);
        faulty("use 0; let u = 1" + times(30, "+1") + "; where (a) ^is there; give a;", 1);
        faulty("use 0; let u = 1" + times(30, "+1") + "; where ^or a = 1; give a;", 1);
    }

    private static void oneInTheOther() {
        says("a 9th of these that stand one in the other: ( (of FUNS, min, max, too), [, the - of one, the word not");
        String[][] inExp = {{"", "(", ")"}, {"abs", "(", ")"}, {"floor", "(", ")"}, {"ceil", "(", ")"}, {"round", "(", ")"}, {"sign", "(", ")"},
            {"min", "(", ",1)"}, {"max", "(", ",1)"}, {"", "-", ""}};
        for (String[] one : inExp) {
            right("use 0; let u = " + times(8, one[0] + one[1]) + "1" + times(8, one[2]) + "; give a;");
            faulty("use 0; let u = " + times(8, one[0] + one[1]) + one[0] + "^" + one[1] + "1" + times(9, one[2]) + "; give a;", 5);
            right("use 0; let u = (-(-(-(-1)))) + 1; let v = " + times(8, one[0] + one[1]) + "1" + times(8, one[2]) + "; give a;");
            for (String[] other : inExp) {
                right("use 0; let u = " + times(7, one[0] + one[1]) + other[0] + other[1] + "1" + other[2] + times(7, one[2]) + "; give a;");
                faulty("use 0; let u = " + times(8, one[0] + one[1]) + other[0] + "^" + other[1] + "1" + other[2] + times(8, one[2]) + "; give a;", 5);
            }
        }
        right("use 0; let u = min(1," + times(7, "(") + "1" + times(8, ")") + "; give a;");
        faulty("use 0; let u = min(1," + times(7, "(") + "^(1" + times(9, ")") + "; give a;", 5);
        right("use 0; let u = " + times(8, "1+(") + "1" + times(8, ")") + "; give a;");
        faulty("use 0; let u = " + times(8, "1+(") + "1+^(1" + times(9, ")") + "; give a;", 5);
        right("use 0; let u = " + times(4, "2*-(") + "1" + times(4, ")") + "; give a;");
        faulty("use 0; let u = " + times(4, "2*-(") + "2*^-1" + times(4, ")") + "; give a;", 5);
        String[][] inCond = {{"", "[", "]"}, {"", "not ", ""}};
        for (String[] one : inCond) {
            right("use 0; where " + times(8, one[0] + one[1]) + "a = 1" + times(8, one[2]) + "; give a;");
            faulty("use 0; where " + times(8, one[0] + one[1]) + one[0] + "^" + one[1] + "a = 1" + times(9, one[2]) + "; give a;", 5);
            for (String[] other : inCond) {
                right("use 0; where " + times(7, one[0] + one[1]) + other[0] + other[1] + "a = 1" + other[2] + times(7, one[2]) + "; give a;");
                faulty("use 0; where " + times(8, one[0] + one[1]) + other[0] + "^" + other[1] + "a = 1" + other[2] + times(8, one[2]) + "; give a;", 5);
            }
            for (String[] exp : inExp) {
                right("use 0; where " + times(7, one[0] + one[1]) + exp[0] + exp[1] + "a" + exp[2] + " = 1" + times(7, one[2]) + "; give a;");
                faulty("use 0; where " + times(8, one[0] + one[1]) + exp[0] + "^" + exp[1] + "a" + exp[2] + " = 1" + times(8, one[2]) + "; give a;", 5);
                faulty("use 0; where " + times(8, one[0] + one[1]) + "1 = " + exp[0] + "^" + exp[1] + "a" + exp[2] + times(8, one[2]) + "; give a;", 5);
            }
        }
        right("use 0; where " + times(8, "a = 1 or [") + "a = 1" + times(8, "]") + "; give a;");
        faulty("use 0; where " + times(8, "a = 1 or [") + "a = 1 or ^[a = 1" + times(9, "]") + "; give a;", 5);
        right("use 0; where " + times(4, "a = 1 and not [") + "a = 1" + times(4, "]") + "; give a;");
        faulty("use 0; where " + times(4, "a = 1 and not [") + "a = 1 and ^not a = 1" + times(4, "]") + "; give a;", 5);
        says("side by side they do not stand one in the other");
        right("use 0; let u = " + times(8, "-") + "1+(1); give a;");
        right("use 0; let u = 1" + times(9, "*-1") + "; give a;");
        right("use 0; where " + times(8, "not ") + "a = 1 or [a = 1]; give a;");
        right("use 0; let u = (1)" + times(9, "+(1)") + "; let v = -1" + times(9, "+-1") + "; give a;");
        for (String fun : new String[] {"abs(1)", "floor(1)", "ceil(1)", "round(1)", "sign(1)", "min(1,1)", "max(1,1)", "(1)", "-1", "min(-1,(1))"}) {
            right("use 0; let u = " + fun + times(9, "+" + fun) + "; give a;");
        }
        right("use 0; where not a = 1" + times(8, " or not a = 1") + "; give a;");
        right("use 0; where [a = 1]" + times(9, " or [a = 1]") + "; give a;");
        right("use 0; let u = " + times(8, "(") + "1" + times(8, ")") + " + " + times(8, "(") + "1" + times(8, ")") + "; give a;");
        right("use 0; let u = " + times(7, "(") + "-1 + -1" + times(7, ")") + "; give a;");
        right("use 0; let u = " + times(7, "(") + "(1) + (1)" + times(7, ")") + "; give a;");
        right("use 0; where " + times(7, "[") + "not a = 1 and not a = 1" + times(7, "]") + "; give a;");
        right("use 0; where " + times(7, "not ") + "[a = 1 or a = 2] and " + times(7, "not ") + "[a = 1]; give a;");
        says("they are gone behind what they stand over");
        right("use 0; where " + times(8, "not ") + "a = 1 and " + times(8, "not ") + "a = 1; give a;");
        right("use 0; where " + times(8, "[") + "a = 1" + times(8, "]") + " and " + times(8, "(") + "a" + times(8, ")") + " = " + times(8, "(") + "a"
            + times(8, ")") + "; give a;");
        says("a tape full of them");
        faulty("use 0; let u = " + times(8, "-") + "^" + times(577, "-"), 5);
        faulty("use 0; let u = " + times(8, "(") + "^" + times(577, "("), 5);
        faulty("use 0; where " + times(8, "[") + "^" + times(579, "["), 5);
        faulty("use 0; where " + times(8, "not ") + "^" + times(138, "not "), 5);
    }

    // ---- one text behind another

    private static final String[] AHEAD = {"use 1; join 0 on b a; let u = 1.5; let v = 2.5; let w = 3.5; let x = 4.5; give zz;", "use 0; let u = ((((((((1",
        "use 0; let u = " + "--------1;", "use 0; where not [not [not [not [a", "use 0; let u = 1" + "+1".repeat(30) + ";", "use 0; fill a line; fill r 1.5; fill m line; zz",
        "use 0; sort a down, r missing first, z down; zz", "use 0; group a, r; zz", "use 0; group all; give count a, sum r, sum a, mean a, var r, least r; zz",
        "use 0; give r, r, r, r, r, r; zz", "use 0; join 1 near 5; give b; zz", "use 0; span time 1; zz", "use 0; span count 1; zz", "use 0; where a = 1 and a = 2; give r; zz",
        "use 0; known 0; from 99 to 99; give a; zz", "use 0; where a + r + m + k + z + s + q = 1; zz", "use 0; join 1 on r t; give r; zz"};

    private static final String[] BEHIND = {"use 0; give a;", "use 0; give moment, a, r;", "use 0; join 1 on a b; give a, b, t;", "use 0; join 1 near 5; give moment, b;",
        "use 0; let u = (((((((1))))))); give u;", "use 0; let u = 1" + "+1".repeat(30) + "; give u;", "use 0; let u = 1; let v = u; let w = v + 1.5; let x = 7; give u, v, w, x;",
        "use 0; fill a 1; fill r 2; fill m 3; give a, r, m;", "use 0; fill a 1.5; give a;", "use 0; sort r, a down, z; give r, a;", "use 0; group r, a; give r, a, count a;",
        "use 0; group r; give a;", "use 0; group all; give count a, sum a;", "use 0; span count 5; give moment, count a;", "use 0; span time 5; give moment, count a;",
        "use 0; give b;", "use 0; give u;", "use 0; where not not not not not not not not a = 3; give a;", "use 0; where a = 3; give moment;",
        "use 0; give a, a, a, a, a, a;", "use 1; join 0 on t r; give t;", "use 0; let u = c; group u; give u, count m, sum k, sum z, sum s;"};

    private static String told(GapHouse x, String text) {
        int q = Bounds.ask(x, text);
        if (q < 0) {
            return q + " " + x.fault();
        }
        String costs = x.cost(q, 0) + " " + x.cost(q, 1) + " " + x.cost(q, 2) + " " + x.cost(q, 3);
        int rows = x.run(q);
        return costs + ": " + rows + " " + x.ended(0) + "@" + x.ended(1) + " " + x.ended(3) + " " + x.real(0) + x.real(1) + x.real(2) + x.real(3) + " " + Bounds.result(x);
    }

    private static void oneBehindAnother() {
        says("a text is a QUERY, or has a FAULT, whatever texts were ahead of it");
        for (String text : BEHIND) {
            String alone = told(Bounds.made(HOUSE), text);
            for (String ahead : AHEAD) {
                GapHouse x = Bounds.made(HOUSE);
                Bounds.due("a FAULT of " + ahead, Bounds.ask(x, ahead) < 0, true);
                Bounds.due(text + " behind " + ahead, told(x, text), alone);
                Bounds.due("a FAULT of " + ahead, Bounds.ask(x, ahead) < 0, true);
                Bounds.due(text + " behind it, again", told(x, text), alone);
            }
            GapHouse tired = Bounds.made(HOUSE);
            for (int i = 0; i < 10; i++) {
                Bounds.ask(tired, AHEAD[4]);
            }
            Bounds.due(text + " behind ten others", told(tired, text), alone);
            for (String ahead : BEHIND) {
                GapHouse x = Bounds.made(HOUSE);
                told(x, ahead);
                Bounds.due(text + " behind " + ahead, told(x, text), alone);
            }
        }
    }

    public static void main(String[] args) {
        feedAndEnd();
        queries();
        tokens();
        clauses();
        grammar();
        items();
        unknownNames();
        wholesOutOfBounds();
        realForWhole();
        oneTooMany();
        columnsRead();
        signsAndWords();
        oneInTheOther();
        oneBehindAnother();
        Bounds.close();
    }
}

import java.util.ArrayList;
import java.util.List;
import java.util.Random;

/** Makes texts of queries, most of them right, some a little wrong. */
final class Texts {
    private final Random random;
    /** NAMES of each SERIES, and of lets so far. */
    private final List<List<String>> names;
    private final List<String> lets = new ArrayList<>();
    private final StringBuilder out = new StringBuilder();
    private int series;
    private boolean joined;
    private int depth;

    Texts(Random random, List<List<String>> names) {
        this.random = random;
        this.names = names;
    }

    static byte[] bytes(String text) {
        return text.getBytes(java.nio.charset.StandardCharsets.ISO_8859_1);
    }

    private boolean chance(int percent) {
        return random.nextInt(100) < percent;
    }

    private String pick(String... of) {
        return of[random.nextInt(of.length)];
    }

    private void say(String text) {
        out.append(text);
        if (Character.isLetterOrDigit(text.charAt(text.length() - 1)) || chance(20)) {
            out.append(chance(95) ? ' ' : '\n');
        }
    }

    private String nameOf(int of) {
        List<String> list = names.get(of);
        return list.isEmpty() || chance(1) ? pick("zz", "q", "abcdef") : list.get(random.nextInt(list.size()));
    }

    private String name() {
        if (!lets.isEmpty() && chance(35)) {
            return lets.get(random.nextInt(lets.size()));
        }
        return nameOf(joined && chance(50) ? 1 - series : chance(99) ? series : 1 - series);
    }

    private String whole() {
        if (chance(1)) {
            return "1234567890123".substring(0, 8 + random.nextInt(6)) + pick("", ".", ".5", ".123456", ".1234567");
        }
        switch (random.nextInt(8)) {
            case 0: return "0";
            case 1: return "" + random.nextInt(100);
            case 2: return "999999999999";
            case 3: return "" + (long) Math.pow(10, random.nextInt(12));
            default: return "" + random.nextInt(12);
        }
    }

    private String real() {
        switch (random.nextInt(6)) {
            case 0: return "0.0";
            case 1: return "0.1";
            case 2: return "123456789.123456";
            case 3: return random.nextInt(10) + ".5";
            default: return random.nextInt(1000) + "." + random.nextInt(1000);
        }
    }

    private void exp() {
        term();
        while (chance(30)) {
            say(pick("+", "-"));
            term();
        }
    }

    private void term() {
        one();
        while (chance(20)) {
            say(pick("*", "/", "%"));
            one();
        }
    }

    private void one() {
        depth++;
        int what = depth > 7 && chance(90) ? random.nextInt(50) : random.nextInt(100);
        if (what < 15) {
            say(whole());
        } else if (what < 20) {
            say(real());
        } else if (what < 24) {
            say("moment");
        } else if (what < 70) {
            say(name());
        } else if (what < 77) {
            say("-");
            one();
        } else if (what < 84) {
            say("(");
            exp();
            say(")");
        } else if (what < 94) {
            say(pick("abs", "floor", "ceil", "round", "sign"));
            say("(");
            exp();
            say(")");
        } else {
            say(pick("min", "max"));
            say("(");
            exp();
            say(",");
            exp();
            say(")");
        }
        depth--;
    }

    private void cond() {
        both();
        while (chance(20)) {
            say("or");
            both();
        }
    }

    private void both() {
        test();
        while (chance(20)) {
            say("and");
            test();
        }
    }

    private void test() {
        depth++;
        int what = depth > 6 ? 20 + random.nextInt(80) : random.nextInt(100);
        if (what < 12) {
            say("not");
            test();
        } else if (what < 20) {
            say("[");
            cond();
            say("]");
        } else if (what < 45) {
            say(name());
            say("is");
            say(pick("there", "missing", "beyond", "other", "impossible"));
        } else {
            exp();
            say(pick("=", "<", "<=", ">", ">=", "unlike"));
            exp();
        }
        depth--;
    }

    private int times(int usual, int most) {
        return chance(97) ? random.nextInt(usual + 1) : most;
    }

    private void head() {
        series = random.nextInt(2);
        say("use");
        say(chance(99) ? "" + series : "2");
        say(";");
        if (chance(20)) {
            say("known");
            say(whole());
            say(";");
        }
        if (chance(15)) {
            say("from");
            say(chance(60) ? "-" : " ");
            say("" + random.nextInt(100));
            say("to");
            say("" + random.nextInt(200));
            say(";");
        }
        if (chance(40)) {
            say("join");
            say("" + (chance(98) ? 1 - series : series));
            if (chance(60)) {
                say("on");
                say(nameOf(series));
                say(nameOf(1 - series));
            } else {
                say("near");
                say(chance(98) ? "" + (1 + random.nextInt(30)) : "0");
            }
            say(";");
            joined = true;
        }
    }

    private void middle() {
        for (int i = times(2, 5); i > 0; i--) {
            say("let");
            String let = pick("u", "v", "w", "x", "y", "letter", "ya", "yb");
            say(let);
            say("=");
            exp();
            say(";");
            lets.add(let);
        }
        for (int i = times(2, 4); i > 0; i--) {
            say("fill");
            say(name());
            int how = random.nextInt(4);
            if (how > 1 && chance(30)) {
                say("-");
            }
            say(how == 0 ? "last" : how == 1 ? "line" : how == 2 ? whole() : real());
            say(";");
        }
        if (chance(40)) {
            say("where");
            cond();
            say(";");
        }
    }

    private void items(boolean grouped, List<String> keys) {
        say("give");
        for (int i = 1 + times(4, 6); i > 0; i--) {
            int what = random.nextInt(100);
            if (what < 10) {
                say("moment");
            } else if (grouped && what < 25 && (!keys.isEmpty() || chance(3))) {
                say(keys.isEmpty() || chance(3) ? name() : keys.get(random.nextInt(keys.size())));
            } else if (grouped && what < 35) {
                say("quant");
                say(chance(99) ? "" + random.nextInt(101) : "101");
                say(name());
            } else if (grouped) {
                say(pick("count", "missing", "beyond", "other", "impossible", "sum", "sum", "ksum", "mean", "var", "least", "great",
                    "median", "first", "last", "slope", "base"));
                say(name());
            } else {
                if (what < 50) {
                    say(pick("diff", "cum"));
                }
                say(name());
            }
            say(i > 1 ? "," : ";");
        }
    }

    private void tail() {
        List<String> keys = new ArrayList<>();
        int shape = random.nextInt(8);
        boolean grouped = shape >= 4;
        if (shape == 2 || shape == 3) {
            say("sort");
            for (int i = 1 + times(2, 3); i > 0; i--) {
                say(name());
                if (chance(40)) {
                    say("down");
                }
                if (chance(30)) {
                    say("missing");
                    say("first");
                }
                if (chance(30)) {
                    say("impossible");
                    say("first");
                }
                say(i > 1 ? "," : ";");
            }
        } else if (shape == 4) {
            say("group");
            say("all");
            say(";");
        } else if (shape == 5 || shape == 6) {
            say("group");
            for (int i = 1 + times(1, 2); i > 0; i--) {
                String key = name();
                keys.add(key);
                say(key);
                say(i > 1 ? "," : ";");
            }
        } else if (shape == 7) {
            say("span");
            boolean count = chance(50);
            say(count ? "count" : "time");
            say("" + (chance(98) ? 1 + random.nextInt(count ? 6 : 40) : count ? 101 : 0));
            say(";");
        }
        items(grouped, keys);
    }

    /** A sum kept for all: what WAY 2 is for. */
    private void plainSums() {
        say("use");
        say("" + series);
        say(";");
        say("group");
        say("all");
        say(";");
        say("give");
        for (int i = 1 + random.nextInt(3); i > 0; i--) {
            say(pick("count", "sum"));
            say(nameOf(series));
            say(i > 1 ? "," : ";");
        }
    }

    private String spoiled(String text) {
        int at = random.nextInt(text.length() + 1);
        switch (random.nextInt(7)) {
            case 0: return text.substring(0, at);
            case 1: return text.substring(0, at) + pick("(", ")", ";", "[", "=", ".", "A", "\t", " known ", " not ", " - ") + text.substring(at);
            case 2: return text.substring(0, at) + (char) random.nextInt(256) + text.substring(Math.min(text.length(), at + 1));
            case 3: return text.substring(0, at) + text.substring(Math.min(text.length(), at + 1 + random.nextInt(3)));
            case 4: return text.substring(0, at) + pick(" 1234567890123 ", " 1234567890.5 ", " 123456789012.1234567 ", " 1234567890123.5 ", " 1.1234567 ",
                " 123456789.5 ", " 1. ", " .5 ", " abcdefghijk ", " abcdefg ", " impossible ", " 12 ") + text.substring(at);
            case 5: return text + pick(";", " give a;", "  ", "\n", "x");
            default: return text.replaceFirst(pick("use", ";", "give", ",", "\\)", "first"), pick("", " line ", " 3 ", " zz "));
        }
    }

    /** Long chains and deep brackets, about as many as are let through. */
    private String atTheLimits() {
        StringBuilder b = new StringBuilder("use " + series + ";");
        String name = nameOf(series);
        int ops = 25 + random.nextInt(8);
        int deep = 6 + random.nextInt(5);
        if (chance(50)) {
            b.append("let u = ").append(name);
            for (int i = 0; i < ops; i++) {
                b.append(pick("+", "-", "*")).append(chance(50) ? "1" : name);
            }
        } else {
            b.append("let u = ");
            StringBuilder close = new StringBuilder();
            for (int i = 0; i < deep; i++) {
                String open = pick("(", "-", "abs(", "min(1,", "max(" + name + ",");
                b.append(open);
                close.append(open.endsWith("-") ? "" : ")");
            }
            b.append(name).append(close);
        }
        b.append(";");
        if (chance(50)) {
            b.append("where ");
            StringBuilder close = new StringBuilder();
            for (int i = 0; i < deep - 2; i++) {
                String open = pick("[", "not ", "not[");
                b.append(open);
                close.append(open.endsWith("[") ? "]" : "");
            }
            b.append(pick("u", "(u)", "((" + name + "))", "-u")).append("<").append(name).append(close);
            b.append(chance(50) ? " or u is there" : "").append(";");
        }
        b.append("give ").append(name);
        for (int i = random.nextInt(7); i > 0; i--) {
            b.append(",").append(nameOf(series));
        }
        return b.append(";").toString();
    }

    String next() {
        out.setLength(0);
        lets.clear();
        joined = false;
        depth = 0;
        int what = random.nextInt(100);
        if (what < 5) {
            return atTheLimits();
        }
        if (what < 12) {
            plainSums();
        } else {
            head();
            middle();
            tail();
        }
        String text = chance(15) ? spoiled(out.toString()) : out.toString();
        return text.length() > 600 ? text.substring(0, 600) : text;
    }
}

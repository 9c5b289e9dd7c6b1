import java.io.IOException;
import java.lang.reflect.Constructor;
import java.lang.reflect.Executable;
import java.lang.reflect.Field;
import java.lang.reflect.Member;
import java.lang.reflect.Method;
import java.lang.reflect.Modifier;
import java.nio.file.Files;
import java.nio.file.Path;
import java.util.Arrays;
import java.util.List;
import java.util.Set;
import java.util.TreeSet;
import java.util.regex.Matcher;
import java.util.regex.Pattern;
import java.util.stream.Collectors;

/** The public face as the document writes it, and the rules of LANGUAGE.md that can be seen from outside or in the text. */
public final class FaceTest {
    private static final String FACE = """
        public int feed(int a, int b, int c, int d, int e);
        public int end(int n);
        public int segment(int series);
        public int late(int series, int segment, long moment);
        public int plain(int series, long name, int kind);
        public int constant(int series, long name, long v, boolean real);
        public int scaled(long name, int column, int a, int b);
        public int derived(long name, int left, int right, int act);
        public int put(int column, int segment, int kind, int n);
        public int store(int column, int segment, int i, long v, boolean real);
        public int drop(int column, int segment);
        public int spread(int column, long v, boolean real);
        public int glue(int series, int segment);
        public int thin(int series, int n);
        public int correct(int column, int segment, int row, long v, boolean real, long known);
        public int look(int column, int segment, int row, long known);
        public long read(int column, int segment, int row, long known);
        public int array(int column, int segment, int what);
        public int told(int column, int what);
        public int find(long name);
        public long moment(int series, int segment, int row);
        public int query();
        public int fault();
        public int cost(int query, int way);
        public int way(int query);
        public int force(int query, int way);
        public int run(int query);
        public int ended(int what);
        public int sort(int i, int j);
        public long cell(int i, int j);
        public int real(int j);
        public long digest();
        public int mark();
        public int undo(int mark);
        public int count(int what);
        public int clear();
        """;

    private static final Set<String> CONSTANTS = Set.of("UNKNOWN -101", "OUTSIDE -102", "STATE -103", "ROOM -104", "NONE -109");

    /** What rules 3, 6 and 13 leave out, and what would answer for the machine. */
    private static final Pattern BARRED = Pattern.compile("\\b(throw|throws|try|catch|finally|synchronized|assert|double|float|Double|Float|Object|System"
        + "\\.(?!arraycopy\\b)\\w+|Random|Thread|Exception|Error|native|volatile|transient|protected|var)\\b|->|::|Exact\\b");

    private static final int LONGEST_METHOD = 60, MOST_PARAMETERS = 7, MOST_FIELDS = 24, MOST_CLASSES = 13;

    private static int wrong = 0;

    private static void due(String what, Object got, Object want) {
        if (!got.equals(want)) {
            wrong++;
            System.out.println(what + "\n   is  " + got + "\n   due " + want);
        }
    }

    private static String signature(Method method) {
        return method.getReturnType() + " " + method.getName() + Arrays.stream(method.getParameterTypes()).map(Class::toString).collect(Collectors.joining(", ", "(", ")"));
    }

    /** A line of the face without the words that reflection does not tell. */
    private static String signature(String line) {
        return line.trim().replace("public ", "").replace(";", "").replaceAll("(int|long|boolean) \\w+(?=[,)])", "$1");
    }

    private static boolean isOpen(Member member) {
        return !Modifier.isPrivate(member.getModifiers()) && !member.isSynthetic();
    }

    private static void methods() {
        Set<String> want = new TreeSet<>();
        FACE.lines().forEach(line -> want.add(signature(line)));
        Set<String> got = new TreeSet<>();
        for (Method method : GapHouse.class.getDeclaredMethods()) {
            if (isOpen(method)) {
                got.add((Modifier.isPublic(method.getModifiers()) && !Modifier.isStatic(method.getModifiers()) ? "" : "not public: ") + signature(method));
            }
        }
        due("the methods", got, want);
    }

    private static void constantsAndConstructor() throws IllegalAccessException {
        Set<String> got = new TreeSet<>();
        for (Field field : GapHouse.class.getDeclaredFields()) {
            if (isOpen(field)) {
                due("what " + field.getName() + " is", Modifier.toString(field.getModifiers()) + " " + field.getType(), "public static final int");
                got.add(field.getName() + " " + field.get(null));
            }
        }
        due("the constants", got, new TreeSet<>(CONSTANTS));
        Constructor<?>[] constructors = GapHouse.class.getDeclaredConstructors();
        due("how many constructors", constructors.length, 1);
        due("the constructor", constructors[0].toString(), "public GapHouse()");
        due("the class", Modifier.toString(GapHouse.class.getModifiers()), "public final");
        due("its package", GapHouse.class.getPackageName(), "");
        due("what is above it", GapHouse.class.getSuperclass(), Object.class);
        due("what it implements", GapHouse.class.getInterfaces().length, 0);
    }

    private static void classesInside() {
        Class<?>[] inside = GapHouse.class.getDeclaredClasses();
        due("not more classes than some twelve", inside.length < MOST_CLASSES, true);
        Set<String> names = Arrays.stream(GapHouse.class.getDeclaredMethods()).filter(FaceTest::isOpen).map(Method::getName).collect(Collectors.toSet());
        for (Class<?> one : inside) {
            due(one + " is static, and seen here alone", Modifier.isStatic(one.getModifiers()) && !Modifier.isPublic(one.getModifiers())
                && !Modifier.isProtected(one.getModifiers()), true);
            members(one, names);
        }
        members(GapHouse.class, names);
    }

    private static void members(Class<?> one, Set<String> names) {
        int fields = 0;
        for (Field field : one.getDeclaredFields()) {
            boolean isStatic = Modifier.isStatic(field.getModifiers());
            due(field + " is final, if it is static", !isStatic || Modifier.isFinal(field.getModifiers()), true);
            due(field + " has no doubles", field.getType().toString().matches(".*(double|float|\\[[DF]).*"), false);
            fields += isStatic ? 0 : 1;
        }
        due(one + " has some twenty fields", fields < MOST_FIELDS, true);
        for (Method method : one.getDeclaredMethods()) {
            boolean isHidden = Modifier.isPrivate(method.getModifiers());
            due(method + " is not private with a public one's name", isHidden && names.contains(method.getName()), false);
            parameters(method);
        }
        for (Constructor<?> constructor : one.getDeclaredConstructors()) {
            parameters(constructor);
        }
    }

    private static void parameters(Executable of) {
        due(of + " takes seven at most", of.getParameterCount() <= MOST_PARAMETERS, true);
    }

    // ---- the text

    private static String bare(String line) {
        return line.replaceAll("\"(\\\\.|[^\"\\\\])*\"", "\"\"").replaceAll("//.*|^\\s*/?\\*.*", "");
    }

    private static void words(List<String> lines) {
        for (int i = 0; i < lines.size(); i++) {
            Matcher barred = BARRED.matcher(bare(lines.get(i)));
            if (barred.find()) {
                due("line " + (i + 1), barred.group(), "nothing that LANGUAGE.md leaves out");
            }
            if (lines.get(i).startsWith("import ")) {
                due("line " + (i + 1), lines.get(i), "import java.util.Arrays;");
            }
        }
    }

    /** A method ends at the first } that stands as far in as its first line does. */
    private static void lengths(List<String> lines) {
        for (int i = 0; i < lines.size(); i++) {
            Matcher head = Pattern.compile("( {4}| {8})[^ *}].*\\) \\{").matcher(lines.get(i));
            if (head.matches()) {
                int end = i;
                while (!lines.get(end).equals(head.group(1) + "}")) {
                    end++;
                }
                due("line " + (i + 1) + " begins a short method", end - i + 1 <= LONGEST_METHOD, true);
            }
        }
    }

    public static void main(String[] args) throws IOException, IllegalAccessException {
        methods();
        constantsAndConstructor();
        classesInside();
        List<String> lines = Files.readAllLines(Path.of("src/main/java/GapHouse.java"));
        words(lines);
        lengths(lines);
        System.out.println(wrong == 0 ? "the face is as due" : wrong + " things are not as due");
        if (wrong != 0) {
            System.exit(1);
        }
    }
}

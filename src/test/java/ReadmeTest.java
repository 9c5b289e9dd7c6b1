import java.io.IOException;
import java.net.URL;
import java.net.URLClassLoader;
import java.nio.file.Files;
import java.nio.file.Path;
import java.util.ArrayList;
import java.util.List;
import java.util.regex.Matcher;
import java.util.regex.Pattern;

/**
 * What README.md shows of the class's use is compiled and run: each call has to answer the number behind its //.
 * Blocks that declare methods become methods of one class, all others one run of calls, in their order.
 */
public final class ReadmeTest {
    private static final String FENCE = "```";
    private static final String JAVA = "```java";

    /** Perhaps a type, a variable and =; a call; the answer that is told. */
    private static final Pattern TOLD = Pattern.compile("(?:(\\w+) (\\w+) = )?(.+);\\s+// (-?\\d+(?:\\.\\d+)?)(:.*)?");

    /** Lines that need not tell an answer: only a new object. */
    private static final Pattern MADE = Pattern.compile("GapHouse \\w+ = new GapHouse\\(\\);");

    private static int wrong = 0;
    private static int calls = 0;

    private static void complain(String what) {
        wrong++;
        System.out.println("README.md: " + what);
    }

    /** Called by the program that is made of README.md. */
    public static void due(String line, double got, double want) {
        calls++;
        if (got != want) {
            complain(line.trim() + "\n   it answered " + got);
        }
    }

    public static void due(String line, long got, long want) {
        calls++;
        if (got != want) {
            complain(line.trim() + "\n   it answered " + got);
        }
    }

    private static List<List<String>> blocks(List<String> lines) {
        List<List<String>> blocks = new ArrayList<>();
        List<String> open = null;
        for (String line : lines) {
            if (line.startsWith(FENCE)) {
                if (open == null && line.equals(JAVA)) {
                    blocks.add(new ArrayList<>());
                }
                open = open == null && line.equals(JAVA) ? blocks.get(blocks.size() - 1) : null;
            } else if (open != null) {
                open.add(line);
            }
        }
        return blocks;
    }

    private static boolean declaresMethods(List<String> block) {
        return block.stream().anyMatch(line -> line.startsWith("static "));
    }

    private static String quoted(String line) {
        return "\"" + line.replace("\\", "\\\\").replace("\"", "\\\"") + "\"";
    }

    /** A call with the answer that is told of it, as a check. */
    private static String checked(String line) {
        Matcher told = TOLD.matcher(line);
        if (!told.matches()) {
            if (!MADE.matcher(line).matches()) {
                complain("no answer is told: " + line);
            }
            return line;
        }
        String check = "ReadmeTest.due(" + quoted(line) + ", ";
        if (told.group(2) == null) {
            return check + told.group(3) + ", " + told.group(4) + ");";
        }
        return told.group(1) + " " + told.group(2) + " = " + told.group(3) + "; " + check + told.group(2) + ", " + told.group(4) + ");";
    }

    private static String program(List<List<String>> blocks) {
        StringBuilder methods = new StringBuilder();
        StringBuilder body = new StringBuilder();
        for (List<String> block : blocks) {
            for (String line : block) {
                if (declaresMethods(block)) {
                    methods.append(line).append('\n');
                } else if (!line.isBlank()) {
                    body.append(checked(line)).append('\n');
                }
            }
        }
        return "public final class Shown {\n" + methods + "public static void main(String[] args) {\n" + body + "}\n}\n";
    }

    private static void run(String program) throws IOException, InterruptedException, ReflectiveOperationException {
        Path folder = Files.createTempDirectory("shown");
        Path source = folder.resolve("Shown.java");
        Files.writeString(source, program);
        String path = System.getProperty("java.class.path");
        Process compiler = new ProcessBuilder("javac", "-cp", path, "-d", folder.toString(), source.toString()).inheritIO().start();
        if (compiler.waitFor() != 0) {
            complain("what it shows does not compile");
            return;
        }
        try (URLClassLoader loader = new URLClassLoader(new URL[] {folder.toUri().toURL()}, ReadmeTest.class.getClassLoader())) {
            loader.loadClass("Shown").getMethod("main", String[].class).invoke(null, (Object) new String[0]);
        }
    }

    /** Each call of the document's face that a user needs first is shown, and each test of the project is named. */
    private static void mentions(List<String> lines) throws IOException {
        String text = String.join("\n", lines);
        for (String call : "segment late plain constant scaled derived put store correct look read sort spread feed end query fault run ended cell real cost way force mark undo count thin clear".split(" ")) {
            if (!text.contains("house." + call + "(")) {
                complain("it does not show " + call + "()");
            }
        }
        try (var files = Files.list(Path.of("src/test/java"))) {
            files.map(file -> file.getFileName().toString().replace(".java", "")).filter(file -> file.endsWith("Test")).sorted().forEach(test -> {
                if (!text.contains("`" + test)) {
                    complain("it does not name the test " + test);
                }
            });
        }
        if (!text.contains("`.ci/run`")) {
            complain("it does not tell how to run the tests");
        }
    }

    public static void main(String[] args) throws IOException, InterruptedException, ReflectiveOperationException {
        List<String> lines = Files.readAllLines(Path.of("README.md"));
        run(program(blocks(lines)));
        mentions(lines);
        if (calls == 0) {
            complain("it shows no call");
        }
        System.out.println(calls + " calls of README.md: " + (wrong == 0 ? "all answers are as due" : wrong + " complaints"));
        if (wrong != 0) {
            System.exit(1);
        }
    }
}

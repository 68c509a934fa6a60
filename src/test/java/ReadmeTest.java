import java.io.IOException;
import java.io.UncheckedIOException;
import java.lang.reflect.Modifier;
import java.net.URL;
import java.net.URLClassLoader;
import java.nio.file.Files;
import java.nio.file.Path;
import java.util.ArrayList;
import java.util.Comparator;
import java.util.List;
import java.util.Map;
import java.util.TreeMap;
import java.util.TreeSet;
import java.util.regex.Matcher;
import java.util.regex.Pattern;
import java.util.stream.Stream;
import javax.tools.ToolProvider;

/** What README.md says is so: its examples answer what their comments say, its tables are the document's. */
public final class ReadmeTest extends Held {
    private static final Path README = Path.of("README.md");
    private static final Path DOCUMENT = Path.of("../shared/DOC.md");
    private static final Path TESTS = Path.of("src/test/java");

    public static void main(String[] args) throws Exception {
        String page = Files.readString(README);
        about("the examples"); examples(page);
        about("the table of calls"); callTable(page);
        about("the constants"); constants(page);
        about("the names of tests"); testNames(page);
        about("the names of files"); fileNames(page);
        about("the classes inside"); classNames(page);
        end("README.md says what is so");
    }

    // ---- the examples, compiled as they stand

    private static void examples(String page) throws Exception {
        Matcher blocks = Pattern.compile("(?s)```java\n(.*?)```").matcher(page);
        StringBuilder source = new StringBuilder("public final class Examples {\n"
            + "  public static void run(java.util.List<String> calls, java.util.List<Long> answers) {\n");
        List<Long> want = new ArrayList<>();
        int examples = 0;
        while (blocks.find()) {
            source.append("    {\n").append(asked(blocks.group(1), want)).append("    }\n");
            examples++;
        }
        source.append("  }\n}\n");
        due("examples", examples, 2);
        due("calls with an answer beside them", want.size() >= 20 ? 1 : 0, 1);
        Path room = Files.createTempDirectory("readme");
        try {
            heldAgainst(want, room, source.toString());
        } finally {
            remove(room);
        }
    }

    /** The example's lines; a call with an answer beside it is noted instead of forgotten. */
    private static String asked(String example, List<Long> want) {
        StringBuilder lines = new StringBuilder();
        for (String line : example.split("\n")) {
            Matcher call = Pattern.compile("(bench\\..*\\));\\s*// (-?\\d+)(:.*)?").matcher(line);
            if (call.matches()) {
                String words = call.group(1).replace("\"", "'");
                lines.append("calls.add(\"").append(words).append("\"); answers.add((long) ").append(call.group(1))
                    .append(");\n");
                want.add(Long.valueOf(call.group(2)));
            } else {
                due("a comment without an answer: " + line, line.indexOf("//"), -1);
                lines.append(line).append('\n');
            }
        }
        return lines.toString();
    }

    private static void heldAgainst(List<Long> want, Path room, String source) throws Exception {
        Path file = Files.writeString(room.resolve("Examples.java"), source);
        String classes = System.getProperty("java.class.path");
        int compiled = ToolProvider.getSystemJavaCompiler().run(null, null, null, "-cp", classes, "-d",
            room.toString(), file.toString());
        due("javac of the examples", compiled, 0);
        if (compiled != 0) {
            return;
        }
        List<String> calls = new ArrayList<>();
        List<Long> answers = new ArrayList<>();
        try (URLClassLoader loader = new URLClassLoader(new URL[] {room.toUri().toURL()})) {
            loader.loadClass("Examples").getMethod("run", List.class, List.class).invoke(null, calls, answers);
        }
        due("calls run", answers.size(), want.size());
        for (int i = 0; i < Math.min(answers.size(), want.size()); i++) {
            due("call " + i + ", " + calls.get(i), answers.get(i), want.get(i));
        }
    }

    private static void remove(Path room) throws IOException {
        try (Stream<Path> all = Files.walk(room)) {
            all.sorted(Comparator.reverseOrder()).forEach(ReadmeTest::removeOne);
        }
    }

    private static void removeOne(Path one) {
        try {
            Files.delete(one);
        } catch (IOException e) {
            throw new UncheckedIOException(e);
        }
    }

    // ---- the tables

    /** Each row is a promise of the document: the same call, the same S, the same refusals. */
    private static void callTable(String page) throws IOException {
        Map<String, String> rows = new TreeMap<>();
        Matcher row = Pattern.compile("(?m)^\\| `(\\w+\\(.*?\\))` \\| .* \\| (yes|no) \\|(.*)\\|$").matcher(page);
        while (row.find()) {
            rows.put(row.group(1), row.group(2) + " " + row.group(3).trim());
        }
        Map<String, String> promised = promises();
        due("promised calls", promised.size(), 24);
        due("rows", rows.size(), 24);
        for (String call : promised.keySet()) {
            String said = rows.get(call);
            due(call + " is \"" + said + "\", promised is \"" + promised.get(call) + "\"",
                promised.get(call).equals(said) ? 1 : 0, 1);
        }
    }

    private static Map<String, String> promises() throws IOException {
        Map<String, String> all = new TreeMap<>();
        Matcher promise = Pattern.compile("(?m)^`(?:int|long) (\\w+\\(.*?\\))`: (.*)$")
            .matcher(Files.readString(DOCUMENT));
        while (promise.find()) {
            // In count, BAD (2) and its like are numbers to be asked for, not refusals.
            String words = promise.group(2).replaceAll("(BAD|NO|FULL) \\(\\d\\)", "");
            List<String> refusals = new ArrayList<>();
            for (String kind : List.of("BAD", "NO", "FULL")) {
                if (says(words, kind)) {
                    refusals.add(kind);
                }
            }
            String state = says(words, "S") ? "yes" : "no";
            all.put(promise.group(1).replaceAll("\\bint ", ""), state + " " + String.join(", ", refusals));
        }
        return all;
    }

    private static boolean says(String words, String word) {
        return Pattern.compile("\\b" + word + "\\b").matcher(words).find();
    }

    private static void constants(String page) {
        int[] values = {PortBench.NONE, PortBench.BAD, PortBench.NO, PortBench.FULL};
        String[] names = {"NONE", "BAD", "NO", "FULL"};
        for (int i = 0; i < names.length; i++) {
            due(names[i] + " with its value", page.contains("`" + names[i] + "` (" + values[i]) ? 1 : 0, 1);
        }
    }

    // ---- the names

    private static void testNames(String page) throws IOException {
        TreeSet<String> files = new TreeSet<>();
        try (Stream<Path> all = Files.list(TESTS)) {
            all.forEach(file -> files.add(file.getFileName().toString().replace(".java", "")));
        }
        TreeSet<String> named = found(page, "`(\\w+Test)`");
        due("tests " + files + ", named " + named, files.equals(named) ? 1 : 0, 1);
    }

    private static void fileNames(String page) {
        for (String name : found(page, "`((?:\\.\\./|\\.ci/|src/)[\\w./]+|\\w+\\.md)`")) {
            due(name + " is there", Files.exists(Path.of(name)) ? 1 : 0, 1);
        }
        due(".ci/run can be started", Files.isExecutable(Path.of(".ci/run")) ? 1 : 0, 1);
    }

    private static void classNames(String page) {
        TreeSet<String> inside = new TreeSet<>();
        for (Class<?> one : PortBench.class.getDeclaredClasses()) {
            due(one + " is static", Modifier.isStatic(one.getModifiers()) ? 1 : 0, 1);
            inside.add(one.getSimpleName());
        }
        String told = page.substring(Math.max(0, page.indexOf("Inside it:")));
        TreeSet<String> named = found(told.substring(0, Math.max(0, told.indexOf("\n- "))), "`([A-Z]\\w+)`");
        due("classes " + inside + ", named " + named, inside.equals(named) ? 1 : 0, 1);
    }

    private static TreeSet<String> found(String text, String pattern) {
        TreeSet<String> all = new TreeSet<>();
        Matcher m = Pattern.compile(pattern).matcher(text);
        while (m.find()) {
            all.add(m.group(1));
        }
        return all;
    }
}

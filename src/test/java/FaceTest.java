import java.io.IOException;
import java.lang.reflect.Constructor;
import java.lang.reflect.Executable;
import java.lang.reflect.Field;
import java.lang.reflect.Method;
import java.lang.reflect.Modifier;
import java.nio.file.Files;
import java.nio.file.Path;
import java.util.Set;
import java.util.TreeSet;
import java.util.regex.Matcher;
import java.util.regex.Pattern;

/** The public face is the document's and no more; the source keeps to the rules of LANGUAGE.md that can be seen. */
public final class FaceTest {
    private static final Path SOURCE = Path.of("src/main/java/PortBench.java");
    private static final Path DOCUMENT = Path.of("../shared/DOC.md");
    // Words and signs that rules 2, 4, 6 and 13 leave out.
    private static final Pattern RULED_OUT = Pattern.compile(
        "\\b(throw|throws|try|catch|finally|synchronized|assert|import|package|protected|volatile|native|var"
            + "|hashCode|toString|System\\.(?!arraycopy\\b)\\w+|Math\\.\\w*Exact|Thread|Random)\\b|->|::");

    private static int wrong = 0;

    public static void main(String[] args) throws IOException {
        members();
        nestedClasses();
        source();
        System.out.println(wrong == 0 ? "the face is as told" : wrong + " things of the face are not as told");
        if (wrong != 0) {
            System.exit(1);
        }
    }

    private static void due(boolean holds, String what) {
        if (!holds) {
            wrong++;
            System.out.println(what);
        }
    }

    private static void members() throws IOException {
        Set<String> told = new TreeSet<>();
        Matcher m = Pattern.compile("public (int|long) (\\w+)\\((.*?)\\);").matcher(Files.readString(DOCUMENT));
        while (m.find()) {
            told.add(m.group(1) + " " + m.group(2) + " " + (m.group(3).isEmpty() ? 0 : m.group(3).split(",").length));
        }
        Set<String> found = new TreeSet<>();
        Set<String> hidden = new TreeSet<>();
        for (Method method : PortBench.class.getDeclaredMethods()) {
            if (Modifier.isPublic(method.getModifiers())) {
                found.add(method.getReturnType() + " " + method.getName() + " " + method.getParameterCount());
                due(!Modifier.isStatic(method.getModifiers()), method + " is static");
            } else {
                due(method.isSynthetic() || Modifier.isPrivate(method.getModifiers()), method + " is not private");
                hidden.add(method.getName());
            }
        }
        due(told.size() == 24, "the document's calls were not all found: " + told);
        due(told.equals(found), "public methods: " + found + ", due are: " + told);
        for (String call : told) {
            due(!hidden.contains(call.split(" ")[1]), "a private method bears the name of " + call);
        }
        fieldsAndConstructors();
    }

    private static void fieldsAndConstructors() {
        Set<String> open = new TreeSet<>();
        for (Field field : PortBench.class.getDeclaredFields()) {
            if (Modifier.isPrivate(field.getModifiers())) {
                continue;
            }
            open.add(field.getName());
            due(field.toString().startsWith("public static final int "), field.toString());
        }
        due(open.equals(Set.of("NONE", "BAD", "NO", "FULL")), "public constants: " + open);
        Constructor<?>[] made = PortBench.class.getDeclaredConstructors();
        due(made.length == 1 && made[0].getParameterCount() == 0 && Modifier.isPublic(made[0].getModifiers()),
            "the one public constructor");
        due(Modifier.isFinal(PortBench.class.getModifiers()), "the class is final");
    }

    private static void nestedClasses() {
        Class<?>[] inside = PortBench.class.getDeclaredClasses();
        due(inside.length <= 11, "classes: " + inside.length);
        for (Class<?> one : inside) {
            due(Modifier.isStatic(one.getModifiers()), one + " is not static");
            due(!Modifier.isPublic(one.getModifiers()), one + " is public");
            due(one.getDeclaredFields().length <= 20, one + " has many fields");
            for (Executable method : one.getDeclaredMethods()) {
                due(method.getParameterCount() <= 7, method + " takes more than seven");
                for (Method face : PortBench.class.getMethods()) {
                    due(face.getDeclaringClass() != PortBench.class || !face.getName().equals(method.getName()),
                        method + " bears the name of a public one");
                }
            }
        }
    }

    private static void source() throws IOException {
        String text = Files.readString(SOURCE).replaceAll("(?s)/\\*.*?\\*/", "").replaceAll("//.*", "");
        Matcher m = RULED_OUT.matcher(text);
        while (m.find()) {
            due(false, "ruled out: " + m.group());
        }
        for (char c : text.toCharArray()) {
            due(c < 127, "a sign beyond 127: " + (int) c);
        }
    }
}

import java.lang.reflect.Field;
import java.lang.reflect.Method;
import java.lang.reflect.Modifier;
import java.net.URL;
import java.net.URLClassLoader;
import java.nio.file.Files;
import java.nio.file.Path;
import java.util.ArrayList;
import java.util.Comparator;
import java.util.List;
import java.util.Set;
import java.util.TreeSet;
import java.util.regex.Matcher;
import java.util.regex.Pattern;
import java.util.stream.Stream;
import javax.tools.JavaCompiler;
import javax.tools.ToolProvider;

/**
 * The calls that README.md shows, with the answers that it gives. Its Java is compiled as it
 * stands there, but that a call with an answer behind it becomes a comparison of the two.
 */
public final class ReadmeTest {
    private static final Path README = Path.of("README.md");
    private static final Path TESTS = Path.of("src/test/java");
    private static final String FENCE = "```";
    /** A call, and a comment that begins with its answer, with or without words behind a colon. */
    private static final Pattern ANSWERED =
            Pattern.compile("(finder\\.([a-zA-Z]+)\\([^;]*\\)); +// (-?[0-9]+|[A-Z_]+)(: .*)?");

    private static final Set<String> SHOWN = new TreeSet<>();
    private static int wrong;

    private static void fault(String what) {
        wrong++;
        System.out.println("README.md: " + what);
    }

    /** Called by the code that is made of the page. */
    public static void due(int line, String call, long got, long want) {
        if (got != want) {
            fault("line " + line + ": " + call + " answered " + got + ", the page says " + want);
        }
    }

    public static void main(String[] args) throws Exception {
        List<String> lines = Files.readAllLines(README);
        run(program(lines));
        allIsNamed(String.join("\n", lines));
        System.out.println(wrong == 0 ? "the page says what the class does" : wrong + " faults");
        if (wrong != 0) {
            System.exit(1);
        }
    }

    /** A class with a method for each block of Java on the page. */
    private static String program(List<String> lines) {
        StringBuilder program = new StringBuilder("public final class Page {\n");
        List<String> blocks = new ArrayList<>();
        String language = null;
        for (int i = 0; i < lines.size(); i++) {
            String line = lines.get(i);
            if (line.startsWith(FENCE)) {
                boolean begins = language == null;
                if (begins && line.equals(FENCE + "java")) {
                    blocks.add("block" + i);
                    program.append("static void block").append(i).append("() {\n");
                } else if (!begins && language.equals("java")) {
                    program.append("}\n");
                }
                language = begins ? line.substring(FENCE.length()) : null;
            } else if ("java".equals(language)) {
                program.append(statement(i + 1, line)).append('\n');
            }
        }
        program.append("public static void all() {\n");
        for (String block : blocks) {
            program.append(block).append("();\n");
        }
        return program.append("}\n}\n").toString();
    }

    private static String statement(int number, String line) {
        Matcher found = ANSWERED.matcher(line);
        if (!found.matches()) {
            // Only in a loop, where each round has an answer of its own, a call may stand without one.
            if (line.startsWith("finder.") || line.contains("//")) {
                fault("line " + number + " has no answer: " + line);
            }
            return line;
        }
        SHOWN.add(found.group(2));
        String want = found.group(3);
        String constant = Character.isLetter(want.charAt(0)) ? "ArborescenceFinder." : "";
        String call = found.group(1);
        return "ReadmeTest.due(" + number + ", \"" + call.replace("\"", "\\\"") + "\", " + call + ", "
                + constant + want + ");";
    }

    private static void run(String program) throws Exception {
        JavaCompiler compiler = ToolProvider.getSystemJavaCompiler();
        if (compiler == null) {
            fault("there is no compiler to read it with");
            return;
        }
        Path room = Files.createTempDirectory("readme");
        try {
            Path source = Files.writeString(room.resolve("Page.java"), program);
            int result = compiler.run(null, null, null, "-cp", System.getProperty("java.class.path"),
                    "-d", room.toString(), source.toString());
            if (result != 0) {
                fault("its Java does not compile:\n" + program);
                return;
            }
            try (URLClassLoader loader = new URLClassLoader(new URL[] {room.toUri().toURL()})) {
                loader.loadClass("Page").getMethod("all").invoke(null);
            }
        } finally {
            delete(room);
        }
    }

    private static void delete(Path room) throws Exception {
        try (Stream<Path> found = Files.walk(room)) {
            for (Path path : found.sorted(Comparator.reverseOrder()).toList()) {
                Files.delete(path);
            }
        }
    }

    private static void allIsNamed(String page) throws Exception {
        for (Method method : ArborescenceFinder.class.getDeclaredMethods()) {
            String name = method.getName();
            if (Modifier.isPublic(method.getModifiers()) && !SHOWN.contains(name)) {
                fault("no call of " + name + " with its answer");
            }
        }
        for (Field field : ArborescenceFinder.class.getDeclaredFields()) {
            if (Modifier.isPublic(field.getModifiers())
                    && !page.contains("| `" + field.getName() + "` | " + field.getInt(null) + " |")) {
                fault("it does not tell the constant " + field.getName());
            }
        }
        try (Stream<Path> tests = Files.list(TESTS)) {
            for (Path test : tests.sorted().toList()) {
                String name = test.getFileName().toString().replace(".java", "");
                if (!page.contains("| `" + name + "` |")) {
                    fault("it does not tell what " + name + " looks at");
                }
            }
        }
        if (!page.contains("\n.ci/run\n")) {
            fault("it does not tell how to run the tests");
        }
    }
}

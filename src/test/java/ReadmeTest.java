import java.io.File;
import java.io.IOException;
import java.lang.reflect.Method;
import java.lang.reflect.Modifier;
import java.net.URL;
import java.net.URLClassLoader;
import java.nio.file.Files;
import java.nio.file.Path;
import java.util.List;
import java.util.regex.Matcher;
import java.util.regex.Pattern;
import javax.tools.JavaCompiler;
import javax.tools.ToolProvider;

/**
 * The examples in README.md are compiled as they stand there, and each call must answer what its
 * comment says: the answer, then a colon and words, or nothing.
 */
public final class ReadmeTest {
    private static final String EXAMPLES = "ReadmeExamples";
    private static final Pattern NEW_OBJECT = Pattern.compile("CallWays2 ways = new CallWays2\\(\\);");
    private static final Pattern CALL = Pattern.compile(
        "(?:(int|long|boolean) (\\w+) = )?(ways\\.(\\w+)\\([^;]*\\)); +// (-?\\d+|true|false|[A-Z]+)(?::.*)?");

    private static int calls = 0;
    private static int wrong = 0;

    public static void main(String[] args) throws Exception {
        List<String> readme = Files.readAllLines(Path.of("README.md"));
        String program = programOf(readme);
        if (wrong == 0) play(program);
        everyMethodIsUsed(program);
        if (calls == 0) fault("README.md gives no call as an example");
        System.out.println(wrong == 0 ? "README.md's " + calls + " calls answer as it says" : wrong + " faults in README.md");
        if (wrong != 0) System.exit(1);
    }

    private static void fault(String words) {
        wrong++;
        System.out.println(words);
    }

    public static void due(int line, long got, long want) {
        calls++;
        if (got != want) fault("README.md line " + line + ": answered " + got + ", README.md says " + want);
    }

    public static void due(int line, boolean got, boolean want) {
        due(line, got ? 1L : 0L, want ? 1L : 0L);
    }

    /** Each example becomes a block of its own, as each begins with its own object. */
    private static String programOf(List<String> readme) {
        StringBuilder program = new StringBuilder("public final class " + EXAMPLES + " { public static void play() {\n");
        boolean inExample = false;
        for (int i = 0; i < readme.size(); i++) {
            String line = readme.get(i);
            if (!inExample && line.equals("```java")) {
                inExample = true;
                program.append("{\n");
            } else if (inExample && line.equals("```")) {
                inExample = false;
                program.append("}\n");
            } else if (inExample) {
                program.append(checked(i + 1, line)).append('\n');
            }
        }
        return program.append("} }\n").toString();
    }

    private static String checked(int number, String line) {
        if (line.isBlank() || NEW_OBJECT.matcher(line).matches()) return line;
        Matcher m = CALL.matcher(line);
        if (!m.matches()) {
            fault("README.md line " + number + ": no call with its answer: " + line);
            return "";
        }
        String want = m.group(5);
        if (Character.isUpperCase(want.charAt(0))) want = "CallWays2." + want;
        if (Character.isDigit(want.charAt(want.length() - 1))) want = want + "L";
        if (m.group(1) == null) return "ReadmeTest.due(" + number + ", " + m.group(3) + ", " + want + ");";
        return m.group(1) + " " + m.group(2) + " = " + m.group(3) + "; ReadmeTest.due(" + number + ", " + m.group(2) + ", " + want + ");";
    }

    private static void play(String program) throws IOException, ReflectiveOperationException {
        JavaCompiler compiler = ToolProvider.getSystemJavaCompiler();
        if (compiler == null) {
            fault("this java has no compiler");
            return;
        }
        Path room = Files.createTempDirectory("readme");
        Path source = room.resolve(EXAMPLES + ".java");
        Path compiled = room.resolve(EXAMPLES + ".class");
        try {
            Files.writeString(source, program);
            String classes = System.getProperty("java.class.path");
            if (compiler.run(null, null, null, "-cp", classes, "-d", room.toString(), source.toString()) != 0) {
                fault("the examples do not compile");
                return;
            }
            try (URLClassLoader loader = new URLClassLoader(new URL[] {room.toUri().toURL()}, ReadmeTest.class.getClassLoader())) {
                loader.loadClass(EXAMPLES).getMethod("play").invoke(null);
            }
        } finally {
            for (File file : List.of(source.toFile(), compiled.toFile(), room.toFile())) file.delete();
        }
    }

    private static void everyMethodIsUsed(String program) {
        for (Method m : CallWays2.class.getDeclaredMethods()) {
            boolean isUsed = program.contains("ways." + m.getName() + "(");
            if (Modifier.isPublic(m.getModifiers()) && !isUsed) fault("README.md shows no use of " + m.getName() + "()");
        }
    }
}

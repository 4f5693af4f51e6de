import java.io.IOException;
import java.lang.reflect.Field;
import java.lang.reflect.Method;
import java.lang.reflect.Modifier;
import java.net.URL;
import java.net.URLClassLoader;
import java.nio.file.Files;
import java.nio.file.Path;
import java.util.Comparator;
import java.util.List;
import java.util.regex.Matcher;
import java.util.regex.Pattern;
import java.util.stream.Stream;
import javax.tools.ToolProvider;

/** README.md holds: its lines of Java are compiled and run, and each call answers what stands behind it. */
public final class ReadmeTest {
    private static final Path README = Path.of("README.md");
    private static final Pattern CALL = Pattern.compile("(?:(int|long) (\\w+) = )?(fire\\.(\\w+)\\(.*\\));\\s*// = (\\S+).*");
    private static int wrong = 0;

    private static void fail(String what) {
        wrong++;
        System.out.println("ReadmeTest: " + what);
    }

    /** Called by the program that is made of the README's lines. */
    public static void due(String call, long got, long want) {
        if (got != want) fail(call + " answered " + got + ", README.md says " + want);
    }

    public static void main(String[] args) throws Exception {
        List<String> lines = Files.readAllLines(README);
        runLines(lines);
        namesTheFace(String.join("\n", lines));
        System.out.println(wrong == 0 ? "ReadmeTest: all that README.md says holds" : "ReadmeTest: " + wrong + " things do not hold");
        if (wrong != 0) System.exit(1);
    }

    private static void runLines(List<String> lines) throws Exception {
        Path made = Files.createTempDirectory("readme");
        try {
            Path source = made.resolve("ReadmeRun.java");
            Files.writeString(source, programOf(lines));
            String classes = System.getProperty("java.class.path");
            int code = ToolProvider.getSystemJavaCompiler().run(null, null, null, "-cp", classes, "-d", made.toString(), source.toString());
            if (code != 0) fail("its lines do not compile");
            else run(made);
        } finally {
            delete(made);
        }
    }

    private static void run(Path made) throws Exception {
        try (URLClassLoader loader = new URLClassLoader(new URL[] {made.toUri().toURL()}, ReadmeTest.class.getClassLoader())) {
            loader.loadClass("ReadmeRun").getMethod("run").invoke(null);
        }
    }

    private static void delete(Path made) throws IOException {
        try (Stream<Path> files = Files.walk(made)) {
            for (Path file : files.sorted(Comparator.reverseOrder()).toList()) Files.delete(file);
        }
    }

    private static String programOf(List<String> lines) {
        StringBuilder program = new StringBuilder("public final class ReadmeRun {\n");
        for (String name : List.of("NONE", "UNKNOWN", "OUTSIDE", "STATE", "FULL")) {
            program.append("static final int ").append(name).append(" = MouthRiddles.").append(name).append(";\n");
        }
        program.append("public static void run() {\n");
        boolean java = false;
        for (String line : lines) {
            if (line.startsWith("```")) java = line.equals("```java");
            else if (java) program.append(statementOf(line)).append('\n');
        }
        return program.append("}\n}\n").toString();
    }

    private static String statementOf(String line) {
        Matcher call = CALL.matcher(line);
        if (call.matches()) {
            String told = call.group(3).replace("\"", "\\\"");
            String value = call.group(1) == null ? call.group(3) : call.group(2);
            String kept = call.group(1) == null ? "" : call.group(1) + " " + call.group(2) + " = " + call.group(3) + "; ";
            return kept + "ReadmeTest.due(\"" + told + "\", " + value + ", " + call.group(5) + ");";
        }
        if (line.contains("fire.")) fail("a call without an answer: " + line);
        return line;
    }

    private static void namesTheFace(String text) {
        for (Method method : MouthRiddles.class.getDeclaredMethods()) {
            if (!Modifier.isPublic(method.getModifiers())) continue;
            if (!text.contains("`" + method.getName() + "`")) fail("it does not tell of " + method.getName());
            if (!text.contains("fire." + method.getName() + "(")) fail("it has no call of " + method.getName());
        }
        for (Field field : MouthRiddles.class.getDeclaredFields()) {
            if (!Modifier.isPublic(field.getModifiers())) continue;
            String row = "(?s).*\\| `" + field.getName() + "` *\\| " + valueOf(field) + " *\\|.*";
            if (!text.matches(row)) fail("it does not tell the value of " + field.getName());
        }
        if (!text.contains(".ci/run")) fail("it does not tell how to run the tests");
    }

    private static int valueOf(Field field) {
        try {
            return field.getInt(null);
        } catch (IllegalAccessException e) {
            throw new IllegalStateException(e);
        }
    }
}

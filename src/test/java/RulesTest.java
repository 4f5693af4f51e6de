import java.io.IOException;
import java.lang.reflect.Constructor;
import java.lang.reflect.Field;
import java.lang.reflect.Member;
import java.lang.reflect.Method;
import java.lang.reflect.Modifier;
import java.nio.file.Files;
import java.nio.file.Path;
import java.util.HashSet;
import java.util.List;
import java.util.Set;
import java.util.TreeSet;
import java.util.regex.Matcher;
import java.util.regex.Pattern;

/** The public face as the document has it, and what of LANGUAGE.md can be seen in the text and in the classes. */
public final class RulesTest {
    private static final String SOURCE = "src/main/java/MouthRiddles.java";
    private static int wrong = 0;

    private static void rule(String name, boolean holds) {
        if (holds) return;
        wrong++;
        System.out.println("RulesTest: " + name);
    }

    public static void main(String[] args) throws IOException, IllegalAccessException {
        face();
        nested();
        text();
        System.out.println(wrong == 0 ? "RulesTest: all rules hold" : "RulesTest: " + wrong + " rules are broken");
        if (wrong != 0) System.exit(1);
    }

    private static Set<String> faceOfDocument() throws IOException {
        String doc = Files.readString(Path.of("../shared/DOC.md"));
        String block = doc.substring(doc.indexOf("```java"), doc.indexOf("```", doc.indexOf("```java") + 3));
        Set<String> face = new TreeSet<>();
        Matcher method = Pattern.compile("public (int|long) (\\w+)\\(([^)]*)\\);").matcher(block);
        while (method.find()) {
            String types = method.group(3).replaceAll("(\\w+) \\w+", "$1").replace(" ", "");
            face.add(method.group(1) + " " + method.group(2) + "(" + types + ")");
        }
        return face;
    }

    private static Set<String> constantsOfDocument() throws IOException {
        String doc = Files.readString(Path.of("../shared/DOC.md"));
        Matcher line = Pattern.compile("public static final int ([^;]*);").matcher(doc);
        return line.find() ? new TreeSet<>(List.of(line.group(1).split(", "))) : Set.of();
    }

    private static void constants() throws IOException, IllegalAccessException {
        Set<String> constants = new TreeSet<>();
        for (Field field : MouthRiddles.class.getDeclaredFields()) {
            if (!Modifier.isPublic(field.getModifiers())) {
                rule("a field that is not private: " + field, Modifier.isPrivate(field.getModifiers()));
                continue;
            }
            rule("a constant that is no static final int: " + field, field.getType() == int.class
                && Modifier.isStatic(field.getModifiers()) && Modifier.isFinal(field.getModifiers()));
            if (isStatic(field)) constants.add(field.getName() + " = " + field.get(null));
        }
        rule("the constants are " + constants + ", the document has " + constantsOfDocument(), constants.equals(constantsOfDocument()));
    }

    private static void face() throws IOException, IllegalAccessException {
        Set<String> own = new TreeSet<>();
        Set<String> shown = new HashSet<>();
        for (Method method : MouthRiddles.class.getDeclaredMethods()) {
            if (Modifier.isPrivate(method.getModifiers())) continue;
            rule("a method that is neither public nor private: " + method, Modifier.isPublic(method.getModifiers()));
            StringBuilder types = new StringBuilder();
            for (Class<?> type : method.getParameterTypes()) types.append(types.length() == 0 ? "" : ",").append(type.getName());
            own.add(method.getReturnType().getName() + " " + method.getName() + "(" + types + ")");
            shown.add(method.getName());
        }
        rule("the methods are " + own + ", the document has " + faceOfDocument(), own.equals(faceOfDocument()));
        constants();
        Constructor<?>[] made = MouthRiddles.class.getDeclaredConstructors();
        rule("one public constructor without arguments", made.length == 1 && made[0].getParameterCount() == 0 && Modifier.isPublic(made[0].getModifiers()));
        rule("the class is public and final", Modifier.isFinal(MouthRiddles.class.getModifiers()) && Modifier.isPublic(MouthRiddles.class.getModifiers()));
        for (Class<?> inside : MouthRiddles.class.getDeclaredClasses()) {
            for (Method method : inside.getDeclaredMethods()) rule("a name of the face inside: " + method, !shown.contains(method.getName()));
        }
        for (Method method : MouthRiddles.class.getDeclaredMethods()) {
            boolean hidden = Modifier.isPrivate(method.getModifiers());
            rule("a private method with a name of the face: " + method, !hidden || !shown.contains(method.getName()));
        }
    }

    private static void nested() {
        Class<?>[] classes = MouthRiddles.class.getDeclaredClasses();
        rule("twelve classes at most", classes.length < 12);
        for (Class<?> inside : classes) rule("a class that is not static: " + inside, Modifier.isStatic(inside.getModifiers()));
        members(MouthRiddles.class);
        for (Class<?> inside : classes) members(inside);
    }

    private static void members(Class<?> type) {
        int fields = 0;
        for (Field field : type.getDeclaredFields()) {
            if (isStatic(field)) rule("static state: " + field, Modifier.isFinal(field.getModifiers()));
            else fields++;
        }
        rule("twenty fields at most: " + type, fields <= 20);
        for (Method method : type.getDeclaredMethods()) rule("seven parameters at most: " + method, method.getParameterCount() <= 7);
    }

    private static boolean isStatic(Member member) {
        return Modifier.isStatic(member.getModifiers());
    }

    private static void text() throws IOException {
        List<String> lines = Files.readAllLines(Path.of(SOURCE));
        Pattern banned = Pattern.compile("\\b(throw|throws|try|catch|synchronized|assert|float|double|package|var|volatile|native)\\b|->|::|\\w+Exact\\b");
        int begun = 0;
        for (int i = 0; i < lines.size(); i++) {
            String line = lines.get(i).replaceAll("//.*|^\\s*(/\\*\\*|\\*).*", "");
            rule("line " + (i + 1) + " has what is ruled out: " + line, !banned.matcher(line).find());
            rule("line " + (i + 1) + " imports " + line, !line.startsWith("import") || line.matches("import java\\.util\\.(Arrays|ArrayList|List);"));
            // All calls of a run share one room, so that rows come with fields and constructors alone.
            boolean kept = line.matches("\\s+private (final )?\\S+ \\w+ = new .*|.*\\bsights\\[\\w+\\] = new Sight\\(.*");
            rule("line " + (i + 1) + " makes an object in a call: " + line, kept || !line.matches(".*(\\bnew\\b|\\.clone\\(|\\bcopyOf).*"));
            rule("line " + (i + 1) + " holds other signs", line.chars().allMatch(c -> c >= 32 && c < 127));
            if (line.matches("\\s+(public|private|static|int|long|boolean|void|[A-Z]).*\\) \\{")) begun = i;
            if (line.matches("    }|        }")) rule("sixty lines at most, up to line " + (i + 1), i - begun < 60 || line.equals("    }"));
        }
    }
}

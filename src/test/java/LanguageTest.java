import java.io.IOException;
import java.lang.reflect.Constructor;
import java.lang.reflect.Field;
import java.lang.reflect.Method;
import java.lang.reflect.Modifier;
import java.nio.file.Files;
import java.nio.file.Path;
import java.util.Arrays;
import java.util.List;
import java.util.Set;
import java.util.TreeSet;
import java.util.regex.Matcher;
import java.util.regex.Pattern;
import java.util.stream.Collectors;

/** The face of the document, and the rules of LANGUAGE.md that a look at the class and its source can tell. */
final class LanguageTest {
    private static final Path DOCUMENT = Path.of("../shared/DOC.md");
    private static final Path SOURCE = Path.of("src/main/java/EscrowDesk.java");

    public static void main(String[] args) throws IOException {
        constants();
        face();
        members();
        source();
        Check.end("LanguageTest");
    }

    private static void constants() {
        Check.due("NONE", -1, EscrowDesk.NONE);
        Check.due("FULL", -2, EscrowDesk.FULL);
        Check.due("BAD_TEXT", -3, EscrowDesk.BAD_TEXT);
    }

    /** Every line of the document's class, told again from the compiled class. */
    private static void face() throws IOException {
        String document = Files.readString(DOCUMENT);
        int start = document.indexOf("public final class EscrowDesk {");
        String block = document.substring(start, document.indexOf("```", start));
        Set<String> want = new TreeSet<>();
        for (String line : block.split("\n")) {
            if (line.startsWith("    public ")) {
                want.add(line.strip().replaceAll(" (a|b|c|d|e|[a-z]{2,}|k)(?=[,)])", ""));
            }
        }
        Set<String> got = new TreeSet<>();
        for (Method method : EscrowDesk.class.getDeclaredMethods()) {
            if (!Modifier.isPrivate(method.getModifiers())) {
                got.add(signature(method));
            }
        }
        for (Constructor<?> constructor : EscrowDesk.class.getDeclaredConstructors()) {
            got.add("public EscrowDesk" + types(constructor.getParameterTypes()) + ";");
        }
        for (Field field : EscrowDesk.class.getDeclaredFields()) {
            if (!Modifier.isPrivate(field.getModifiers())) {
                got.add(Modifier.toString(field.getModifiers()) + " " + field.getType() + " " + field.getName() + " = "
                    + valueOf(field) + ";");
            }
        }
        Check.due("the face", String.join("\n", want), String.join("\n", got));
        Check.due("lines of the face", 3 + 1 + 60, want.size());
        Check.due("public final", Modifier.PUBLIC | Modifier.FINAL, EscrowDesk.class.getModifiers());
    }

    private static String signature(Method method) {
        String exceptions = Arrays.stream(method.getExceptionTypes()).map(Class::getSimpleName).collect(Collectors.joining(", "));
        return Modifier.toString(method.getModifiers()) + " " + method.getReturnType() + " " + method.getName()
            + types(method.getParameterTypes()) + (exceptions.isEmpty() ? "" : " throws " + exceptions) + ";";
    }

    private static String types(Class<?>[] types) {
        return Arrays.stream(types).map(Class::getName).collect(Collectors.joining(", ", "(", ")"));
    }

    private static int valueOf(Field field) {
        try {
            return field.getInt(null);
        } catch (IllegalAccessException hidden) {
            throw new AssertionError(hidden);
        }
    }

    private static void members() {
        Set<String> face = Arrays.stream(EscrowDesk.class.getDeclaredMethods())
            .filter(method -> Modifier.isPublic(method.getModifiers())).map(Method::getName).collect(Collectors.toSet());
        Class<?>[] classes = EscrowDesk.class.getDeclaredClasses();
        Check.due("at most twelve classes", true, classes.length + 1 <= 12);
        for (Class<?> inside : classes) {
            Check.due(inside + " is static and not public", true,
                Modifier.isStatic(inside.getModifiers()) && !Modifier.isPublic(inside.getModifiers()));
            for (Method method : inside.getDeclaredMethods()) {
                Check.due(inside + "." + method.getName() + " bears no name of the face", false, face.contains(method.getName()));
                Check.due(method.getName() + " takes at most seven", true, method.getParameterCount() <= 7);
            }
            long fields = Arrays.stream(inside.getDeclaredFields()).filter(field -> !Modifier.isStatic(field.getModifiers())).count();
            Check.due(inside + " has at most twenty fields", true, fields <= 20);
        }
        for (Method method : EscrowDesk.class.getDeclaredMethods()) {
            if (Modifier.isPrivate(method.getModifiers())) {
                Check.due(method.getName() + " bears no name of the face", false, face.contains(method.getName()));
            }
        }
    }

    private static void source() throws IOException {
        List<String> lines = Files.readAllLines(SOURCE);
        String code = lines.stream().map(line -> line.replaceAll("^ *(/\\*\\*|\\*|//).*", "")).collect(Collectors.joining("\n"));
        for (String never : List.of("->", "::", "\\bimport\\b", "\\bpackage\\b", "\\btry\\b", "\\bcatch\\b", "\\bfinally\\b",
            "\\bsynchronized\\b", "\\bassert\\b", "\"\\s*\\+", "\\+\\s*\"", "Exact\\b", "static \\{", "\\bdouble\\b", "\\bfloat\\b")) {
            Check.due("the source has no " + never, false, Pattern.compile(never).matcher(code).find());
        }
        Check.due("System is arraycopy alone", 0, Pattern.compile("System\\.(?!arraycopy)").matcher(code).results().count());
        Check.due("Math is min and max alone", 0, Pattern.compile("Math\\.(?!max|min)").matcher(code).results().count());
        Matcher thrown = Pattern.compile("throw new (\\w+)\\(").matcher(code);
        while (thrown.find()) {
            Check.due("throws " + thrown.group(1), true, List.of("IndexOutOfBoundsException", "IllegalArgumentException",
                "IllegalStateException").contains(thrown.group(1)));
        }
        Check.due("plain signs alone", true, code.chars().allMatch(sign -> sign < 128));
        methodsAreShort(lines);
    }

    /** A method stands four or eight columns deep; it begins with a line that ends in ") {" or the like and ends with its brace. */
    private static void methodsAreShort(List<String> lines) {
        for (String margin : List.of("    ", "        ")) {
            int start = -1;
            for (int line = 0; line < lines.size(); line++) {
                String text = lines.get(line);
                if (text.matches(margin + "[a-zA-Z].*\\(.*")) {
                    start = line;
                }
                if (text.equals(margin + "}") && start >= 0) {
                    Check.due("the method at line " + (start + 1) + " is short", true, line - start <= 60);
                    start = -1;
                }
            }
        }
    }
}

import java.io.IOException;
import java.lang.reflect.Field;
import java.lang.reflect.Method;
import java.lang.reflect.Modifier;
import java.nio.file.Files;
import java.nio.file.Path;
import java.util.ArrayList;
import java.util.List;
import java.util.regex.Matcher;
import java.util.regex.Pattern;

/** The class keeps to those rules of LANGUAGE.md that its text shows; it is run from the project's folder. */
public final class RulesTest {
    private static final Path SOURCE = Path.of("src", "main", "java", "StarPress.java");
    private static final int LONGEST_METHOD = 60;
    private static final int MOST_CLASSES = 12;
    private static final int MOST_FIELDS = 20;
    private static final int MOST_PARAMETERS = 7;

    // Each row: the number of the rule and what must not be found in the code.
    private static final String[][] BANNED = {
        {"1", "^package\\b"},
        {"2", "->"},
        {"2", "::"},
        {"4", "^import (?!java\\.util\\.(Arrays|NoSuchElementException);)"},
        {"4", "Exact\\b"},
        {"4", "\\bMath\\.(?!(abs|max|min)\\b)"},
        {"5", "\\bstatic \\{"},
        {"5", "\\bstatic (?!final )[\\w\\[\\]<>]+ \\w+( =|;)"},
        {"6", "\\b(try|catch|finally|synchronized|assert|instanceof)\\b"},
        {"6", "\\b(equals|hashCode|toString)\\("},
        {"7", "[/%] [a-z]"},
        {"8", "\\bThread\\b"},
        {"10", "\" \\+|\\+ \""},
        {"13", "\\b(System\\.(?!arraycopy)|Random\\b|Runtime\\b)"},
    };

    private static String code = "";

    public static void main(String[] args) throws IOException {
        String text = Files.readString(SOURCE);
        code = text.replaceAll("/\\*\\*.*?\\*/|//[^\n]*", "");
        Check.part("banned words", RulesTest::checkBanned);
        Check.part("throws", RulesTest::checkThrows);
        Check.part("sizes", RulesTest::checkSizes);
        Check.part("classes", RulesTest::checkClasses);
        Check.part("signs", () -> Check.isTrue("all signs are plain", text.chars().allMatch(c -> c < 128)));
        Check.finish("RulesTest");
    }

    private static List<String> found(String pattern) {
        List<String> all = new ArrayList<>();
        Matcher matcher = Pattern.compile(pattern, Pattern.MULTILINE).matcher(code);
        while (matcher.find()) {
            int line = (int) code.substring(0, matcher.start()).chars().filter(c -> c == '\n').count() + 1;
            all.add("line " + line + ": " + matcher.group());
        }
        return all;
    }

    private static void checkBanned() {
        for (String[] row : BANNED) {
            Check.same("rule " + row[0] + ", " + row[1], found(row[1]), List.of());
        }
    }

    private static void checkThrows() {
        Check.same("every throw is of a new exception with a written text",
                found("throw new \\w+Exception\\(\"[ -~]+\"\\);").size(), found("\\bthrow\\b").size());
    }

    private static void checkClasses() {
        List<Class<?>> classes = new ArrayList<>(List.of(StarPress.class.getDeclaredClasses()));
        classes.add(StarPress.class);
        for (Class<?> type : classes) {
            int fields = 0;
            for (Field field : type.getDeclaredFields()) {
                boolean isStatic = Modifier.isStatic(field.getModifiers());
                fields += isStatic ? 0 : 1;
                Check.isTrue(field + " has an allowed type", isAllowed(field.getType(), classes));
                Check.isTrue(field + " is final", !isStatic || Modifier.isFinal(field.getModifiers()));
                Check.isTrue(field + " is a field of an enum", isStatic || !type.isEnum()
                        || field.getType().isPrimitive() || field.getType() == String.class);
            }
            Check.isTrue("fields of " + type, fields <= MOST_FIELDS);
            for (Method method : type.getDeclaredMethods()) {
                Check.isTrue("parameters of " + method, method.getParameterCount() <= MOST_PARAMETERS);
            }
        }
    }

    /** Tells if a field can have a type: a primitive one, a text, a class inside, or an array of these. */
    private static boolean isAllowed(Class<?> type, List<Class<?>> inside) {
        Class<?> held = type.isArray() ? type.getComponentType() : type;
        return held.isPrimitive() || inside.contains(held) || type == String.class;
    }

    private static void checkSizes() {
        Check.isTrue("classes", found("\\b(class|enum|interface|record) \\w+").size() <= MOST_CLASSES);
        int start = 0;
        String[] lines = code.split("\n");
        for (int line = 0; line < lines.length; line++) {
            if (lines[line].matches(" {4}( {4})?[\\w(].*\\{")) {
                start = line;
            } else if (lines[line].matches(" {4}( {4})?\\}") && !lines[start].contains("class ")) {
                Check.isTrue("length of the method in line " + (start + 1), line - start < LONGEST_METHOD);
                start = line;
            }
        }
    }
}

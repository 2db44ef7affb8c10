import java.io.File;
import java.io.IOException;
import java.net.URL;
import java.net.URLClassLoader;
import java.nio.file.Files;
import java.nio.file.Path;
import java.util.ArrayList;
import java.util.List;
import java.util.function.Supplier;
import java.util.regex.Matcher;
import java.util.regex.Pattern;
import javax.tools.ToolProvider;

/**
 * The calls of README.md answer as it says they do; it is run from the project's folder. The page's blocks of Java are
 * made a program of their own, which gives the answers of the lines whose comments tell one.
 */
public final class ReadmeTest {
    private static final Pattern BLOCK = Pattern.compile("```java\n(.*?)```", Pattern.DOTALL);
    // A variable that is made, if there is one; the call; what it answers or throws; a remark.
    private static final Pattern LINE = Pattern.compile("(?:(\\w+ (\\w+)) = )?(shop\\..*);\\s*// ([^:]+)(?:: .*)?");

    private static final String BEGINNING = """
            import java.util.ArrayList;
            import java.util.List;
            import java.util.function.Supplier;
            public final class Readme implements Supplier<List<String>> {
                private static String answer(Supplier<Object> call) {
                    try {
                        return String.valueOf(call.get());
                    } catch (RuntimeException e) {
                        return "throws " + e.getClass().getSimpleName();
                    }
                }
                public List<String> get() {
                    List<String> got = new ArrayList<>();
            """;

    private static final List<String> LINES = new ArrayList<>();
    private static final List<String> DUE = new ArrayList<>();

    public static void main(String[] args) throws IOException {
        String page = Files.readString(Path.of("README.md"));
        Path folder = Files.createTempDirectory("readme");
        File source = folder.resolve("Readme.java").toFile();
        File built = folder.resolve("Readme.class").toFile();
        Files.writeString(source.toPath(), program(page));
        int result = ToolProvider.getSystemJavaCompiler().run(null, null, null, "-cp",
                System.getProperty("java.class.path"), "-d", folder.toString(), source.toString());
        Check.same("what compiling the calls answers", result, 0);
        Check.part("README.md", () -> compare(answers(folder)));
        Check.isTrue("the calls leave no file", source.delete() & built.delete() && folder.toFile().delete());
        Check.isTrue("the page has calls that tell their answers", DUE.size() > 40);
        Check.isTrue("the page tells how to run the tests", page.contains("`.ci/run`"));
        Check.finish("ReadmeTest");
    }

    private static String program(String page) {
        StringBuilder program = new StringBuilder(BEGINNING);
        Matcher block = BLOCK.matcher(page);
        while (block.find()) {
            program.append("{\n");
            block.group(1).lines().forEach(line -> program.append(statement(line)).append('\n'));
            program.append("}\n");
        }
        return program.append("return got;\n}\n}\n").toString();
    }

    private static String statement(String line) {
        Matcher told = LINE.matcher(line);
        if (!told.matches()) {
            Check.isTrue("'" + line + "' tells no answer", !line.contains("//"));
            return line;
        }
        LINES.add(line);
        DUE.add(told.group(4).strip());
        String call = told.group(3);
        if (told.group(1) == null) {
            return "got.add(answer(() -> " + call + "));";
        }
        return told.group(1) + " = " + call + "; got.add(String.valueOf(" + told.group(2) + "));";
    }

    @SuppressWarnings("unchecked")
    private static List<String> answers(Path folder) {
        try (URLClassLoader loader = new URLClassLoader(new URL[] {folder.toUri().toURL()})) {
            return ((Supplier<List<String>>) loader.loadClass("Readme").getConstructor().newInstance()).get();
        } catch (IOException | ReflectiveOperationException e) {
            throw new IllegalStateException(e);
        }
    }

    private static void compare(List<String> got) {
        Check.same("number of answers", got.size(), DUE.size());
        for (int index = 0; index < DUE.size(); index++) {
            Check.same("'" + LINES.get(index) + "'", got.get(index), DUE.get(index));
        }
    }
}

import java.io.IOException;
import java.lang.reflect.Constructor;
import java.lang.reflect.Field;
import java.lang.reflect.Method;
import java.lang.reflect.Modifier;
import java.nio.file.Files;
import java.nio.file.Path;
import java.util.ArrayList;
import java.util.Arrays;
import java.util.List;
import java.util.Set;
import java.util.TreeSet;
import java.util.stream.Collectors;

/**
 * The class has the document's public face and no other member that can be seen from outside; it is run from the
 * project's folder.
 */
public final class FaceTest {
    // The declarations as the document has them, each after the word public.
    private static final String FACE = """
            int addPlate(int ink) throws IllegalArgumentException, IllegalStateException
            int addStar(int plate, int x, int y) throws IndexOutOfBoundsException, IllegalArgumentException, \
            IllegalStateException
            int removeStar(int plate, int x, int y) throws IndexOutOfBoundsException, IllegalArgumentException, \
            NoSuchElementException
            int setShift(int plate, int dx, int dy) throws IndexOutOfBoundsException, IllegalArgumentException
            int fit(int plate, int other) throws IndexOutOfBoundsException, IllegalArgumentException
            int plateCount()
            int inkOf(int plate) throws IndexOutOfBoundsException
            int starCount(int plate) throws IndexOutOfBoundsException
            boolean hasStar(int plate, int x, int y) throws IndexOutOfBoundsException, IllegalArgumentException
            int shiftX(int plate) throws IndexOutOfBoundsException
            int shiftY(int plate) throws IndexOutOfBoundsException
            int matches(int plate, int other, int dx, int dy) throws IndexOutOfBoundsException, IllegalArgumentException
            int mostMatches(int plate, int other) throws IndexOutOfBoundsException
            int mostMatchesByPairs(int plate, int other) throws IndexOutOfBoundsException
            int bestShiftX(int plate, int other) throws IndexOutOfBoundsException
            int bestShiftY(int plate, int other) throws IndexOutOfBoundsException
            int addSheet() throws IllegalStateException
            int print(int plate, int sheet) throws IndexOutOfBoundsException, UnsupportedOperationException
            boolean wouldSmear(int sheet) throws IndexOutOfBoundsException
            int sheetCount()
            int colour(int sheet, int x, int y) throws IndexOutOfBoundsException, IllegalArgumentException
            int intended(int sheet, int x, int y) throws IndexOutOfBoundsException, IllegalArgumentException
            int placesOf(int sheet, int colour) throws IndexOutOfBoundsException, IllegalArgumentException
            int wetness(int sheet) throws IndexOutOfBoundsException
            int smears(int sheet) throws IndexOutOfBoundsException
            int misprints(int sheet) throws IndexOutOfBoundsException
            int misprintsBySets(int sheet) throws IndexOutOfBoundsException
            int sheetByMisprints(int rank) throws NoSuchElementException
            int putInRack(int sheet) throws IndexOutOfBoundsException, IllegalStateException, \
            UnsupportedOperationException
            int takeOut(int sheet) throws IndexOutOfBoundsException, IllegalStateException
            int rackPlace(int sheet) throws IndexOutOfBoundsException, NoSuchElementException
            int sheetInRack(int place) throws IndexOutOfBoundsException, NoSuchElementException
            int addInk(int ink, int drops) throws IllegalArgumentException, IllegalStateException
            int drops(int ink) throws IllegalArgumentException
            int passHours(int hours) throws IllegalArgumentException
            int hour()
            int hoursUntilDry(int sheet) throws IndexOutOfBoundsException
            int hoursUntilDryAtOnce(int sheet) throws IndexOutOfBoundsException
            int refusalReason() throws NoSuchElementException
            int refusalDetail() throws NoSuchElementException
            double meanWetness() throws ArithmeticException
            float smearedFraction() throws ArithmeticException
            int writeRow(int sheet, int y) throws IndexOutOfBoundsException, IllegalArgumentException
            char outputCharacter(int index) throws IndexOutOfBoundsException
            boolean isConsistent()
            int feed(char character) throws IllegalStateException
            int execute() throws IllegalArgumentException, UnsupportedOperationException
            int errorPosition() throws NoSuchElementException
            int failedCommand() throws NoSuchElementException
            int undo() throws IllegalStateException
            int undoCount()
            int save()
            int restore() throws IllegalStateException
            """;

    private static final String CONSTANTS = """
            static final int CYAN = 1;
            static final int MAGENTA = 2;
            static final int YELLOW = 4;
            static final int IN_RACK = 1;
            static final int NO_INK = 2;
            static final int RACK_FULL = 3;
            """;

    private static final Path SOURCE = Path.of("src", "main", "java", "StarPress.java");

    public static void main(String[] args) throws IOException {
        String code = Files.readString(SOURCE).replaceAll("\\s+", " ");
        Check.part("class", FaceTest::checkClass);
        Check.part("methods", FaceTest::checkMethods);
        Check.part("fields", FaceTest::checkFields);
        Check.part("declarations", () -> checkDeclarations(code));
        Check.part("private names", FaceTest::checkPrivateNames);
        Check.part("classes inside", FaceTest::checkClassesInside);
        Check.finish("FaceTest");
    }

    private static void checkClass() {
        Check.same("modifiers", StarPress.class.getModifiers(), Modifier.PUBLIC | Modifier.FINAL);
        Check.same("package", StarPress.class.getPackageName(), "");
        Check.same("superclass", StarPress.class.getSuperclass(), Object.class);
        Check.same("interfaces", StarPress.class.getInterfaces().length, 0);
        Constructor<?>[] constructors = StarPress.class.getDeclaredConstructors();
        Check.same("constructors", constructors.length, 1);
        Check.same("constructor", constructors[0].toString(), "public StarPress()");
    }

    private static void checkMethods() {
        List<String> seen = new ArrayList<>();
        for (Method method : StarPress.class.getDeclaredMethods()) {
            if (!Modifier.isPrivate(method.getModifiers()) && !method.isSynthetic()) {
                Check.same("modifiers of " + method, method.getModifiers(), Modifier.PUBLIC);
                seen.add(told(method));
            }
        }
        seen.sort(null);
        List<String> due = new ArrayList<>();
        FACE.lines().forEach(line -> due.add(line.replaceAll("(int|char) \\w+(?=[,)])", "$1")));
        due.sort(null);
        Check.sameLines("the methods", seen, due);
    }

    /** Tells a method as the document does, but without the names of its parameters. */
    private static String told(Method method) {
        String exceptions = names(method.getExceptionTypes());
        return method.getReturnType().getSimpleName() + " " + method.getName() + "(" + names(method.getParameterTypes())
                + ")" + (exceptions.isEmpty() ? "" : " throws " + exceptions);
    }

    private static String names(Class<?>[] types) {
        return Arrays.stream(types).map(Class::getSimpleName).collect(Collectors.joining(", "));
    }

    private static void checkFields() {
        Set<String> seen = new TreeSet<>();
        for (Field field : StarPress.class.getDeclaredFields()) {
            if (!Modifier.isPrivate(field.getModifiers()) && !field.isSynthetic()) {
                Check.same("modifiers of " + field, field.getModifiers(),
                        Modifier.PUBLIC | Modifier.STATIC | Modifier.FINAL);
                seen.add("static final " + field.getType() + " " + field.getName());
            }
        }
        Set<String> due = new TreeSet<>();
        CONSTANTS.lines().forEach(line -> due.add(line.substring(0, line.indexOf(" = "))));
        Check.same("constants", seen, due);
    }

    /** The names of the parameters stand in the text of the class alone. */
    private static void checkDeclarations(String code) {
        FACE.lines().forEach(line -> Check.isTrue(line, code.contains("public " + line + " {")));
        CONSTANTS.lines().forEach(line -> Check.isTrue(line, code.contains("public " + line)));
    }

    private static void checkPrivateNames() {
        for (Method method : StarPress.class.getDeclaredMethods()) {
            if (Modifier.isPrivate(method.getModifiers())) {
                Check.isTrue(method.getName() + " is no public name", !FACE.contains(" " + method.getName() + "("));
            }
        }
    }

    private static void checkClassesInside() {
        Class<?>[] inside = StarPress.class.getDeclaredClasses();
        Check.isTrue("there are some", inside.length > 0);
        for (Class<?> type : inside) {
            int modifiers = type.getModifiers();
            Check.isTrue(type + " is static", Modifier.isStatic(modifiers));
            Check.isTrue(type + " is hidden", !Modifier.isPublic(modifiers) && !Modifier.isProtected(modifiers));
        }
    }
}

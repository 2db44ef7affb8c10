import java.lang.reflect.Constructor;
import java.lang.reflect.Field;
import java.lang.reflect.Method;
import java.lang.reflect.Modifier;
import java.util.Arrays;
import java.util.Set;
import java.util.TreeSet;

/** The class has the document's public face and no other member that can be seen from outside. */
public final class FaceTest {
    private static final String FACE = """
            addPlate(int) int IllegalArgumentException IllegalStateException
            addStar(int,int,int) int IndexOutOfBoundsException IllegalArgumentException IllegalStateException
            removeStar(int,int,int) int IndexOutOfBoundsException IllegalArgumentException NoSuchElementException
            setShift(int,int,int) int IndexOutOfBoundsException IllegalArgumentException
            fit(int,int) int IndexOutOfBoundsException IllegalArgumentException
            plateCount() int
            inkOf(int) int IndexOutOfBoundsException
            starCount(int) int IndexOutOfBoundsException
            hasStar(int,int,int) boolean IndexOutOfBoundsException IllegalArgumentException
            shiftX(int) int IndexOutOfBoundsException
            shiftY(int) int IndexOutOfBoundsException
            matches(int,int,int,int) int IndexOutOfBoundsException IllegalArgumentException
            mostMatches(int,int) int IndexOutOfBoundsException
            mostMatchesByPairs(int,int) int IndexOutOfBoundsException
            bestShiftX(int,int) int IndexOutOfBoundsException
            bestShiftY(int,int) int IndexOutOfBoundsException
            addSheet() int IllegalStateException
            print(int,int) int IndexOutOfBoundsException UnsupportedOperationException
            wouldSmear(int) boolean IndexOutOfBoundsException
            sheetCount() int
            colour(int,int,int) int IndexOutOfBoundsException IllegalArgumentException
            intended(int,int,int) int IndexOutOfBoundsException IllegalArgumentException
            placesOf(int,int) int IndexOutOfBoundsException IllegalArgumentException
            wetness(int) int IndexOutOfBoundsException
            smears(int) int IndexOutOfBoundsException
            misprints(int) int IndexOutOfBoundsException
            misprintsBySets(int) int IndexOutOfBoundsException
            sheetByMisprints(int) int NoSuchElementException
            putInRack(int) int IndexOutOfBoundsException IllegalStateException UnsupportedOperationException
            takeOut(int) int IndexOutOfBoundsException IllegalStateException
            rackPlace(int) int IndexOutOfBoundsException NoSuchElementException
            sheetInRack(int) int IndexOutOfBoundsException NoSuchElementException
            addInk(int,int) int IllegalArgumentException IllegalStateException
            drops(int) int IllegalArgumentException
            passHours(int) int IllegalArgumentException
            hour() int
            hoursUntilDry(int) int IndexOutOfBoundsException
            hoursUntilDryAtOnce(int) int IndexOutOfBoundsException
            refusalReason() int NoSuchElementException
            refusalDetail() int NoSuchElementException
            meanWetness() double ArithmeticException
            smearedFraction() float ArithmeticException
            writeRow(int,int) int IndexOutOfBoundsException IllegalArgumentException
            outputCharacter(int) char IndexOutOfBoundsException
            isConsistent() boolean
            feed(char) int IllegalStateException
            execute() int IllegalArgumentException UnsupportedOperationException
            errorPosition() int NoSuchElementException
            failedCommand() int NoSuchElementException
            undo() int IllegalStateException
            undoCount() int
            save() int
            restore() int IllegalStateException
            """;

    private static final String CONSTANTS = "CYAN MAGENTA YELLOW IN_RACK NO_INK RACK_FULL";

    public static void main(String[] args) {
        Check.part("class", FaceTest::checkClass);
        Check.part("methods", FaceTest::checkMethods);
        Check.part("fields", FaceTest::checkFields);
        Check.part("private names", FaceTest::checkPrivateNames);
        Check.finish("FaceTest");
    }

    private static void checkClass() {
        Check.same("modifiers", StarPress.class.getModifiers(), Modifier.PUBLIC | Modifier.FINAL);
        Constructor<?>[] constructors = StarPress.class.getDeclaredConstructors();
        Check.same("constructors", constructors.length, 1);
        Check.same("constructor", constructors[0].toString(), "public StarPress()");
    }

    private static void checkMethods() {
        Set<String> seen = new TreeSet<>();
        for (Method method : StarPress.class.getDeclaredMethods()) {
            if (!Modifier.isPrivate(method.getModifiers()) && !method.isSynthetic()) {
                Check.same("modifiers of " + method, method.getModifiers(), Modifier.PUBLIC);
                seen.add(told(method));
            }
        }
        Check.same("methods", seen, new TreeSet<>(Arrays.asList(FACE.split("\n"))));
    }

    private static String told(Method method) {
        StringBuilder text = new StringBuilder(method.getName()).append('(');
        for (Class<?> type : method.getParameterTypes()) {
            text.append(text.charAt(text.length() - 1) == '(' ? "" : ",").append(type.getSimpleName());
        }
        text.append(") ").append(method.getReturnType().getSimpleName());
        for (Class<?> type : method.getExceptionTypes()) {
            text.append(' ').append(type.getSimpleName());
        }
        return text.toString();
    }

    private static void checkFields() {
        Set<String> seen = new TreeSet<>();
        for (Field field : StarPress.class.getDeclaredFields()) {
            if (!Modifier.isPrivate(field.getModifiers())) {
                Check.same("modifiers of " + field, field.getModifiers(),
                        Modifier.PUBLIC | Modifier.STATIC | Modifier.FINAL);
                Check.same("type of " + field, field.getType(), int.class);
                seen.add(field.getName());
            }
        }
        Check.same("constants", seen, new TreeSet<>(Arrays.asList(CONSTANTS.split(" "))));
    }

    private static void checkPrivateNames() {
        for (Method method : StarPress.class.getDeclaredMethods()) {
            if (Modifier.isPrivate(method.getModifiers())) {
                Check.isTrue(method.getName() + " is no public name",
                        !FACE.startsWith(method.getName() + "(") && !FACE.contains("\n" + method.getName() + "("));
            }
        }
    }
}

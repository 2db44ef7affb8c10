import java.lang.reflect.InvocationTargetException;
import java.lang.reflect.Method;
import java.util.ArrayList;
import java.util.Arrays;
import java.util.List;
import java.util.Random;

/** Makes the same calls to the class and to PlainModel, and compares every answer and everything that can be asked. */
public final class ModelTest {
    private static final int RUNS = 60;
    private static final int CALLS = 512;
    private static final int CALLS_PER_LOOK = 12;

    // A method stands once for each time that it is as likely as one that stands once.
    private static final String[] CALLED = {
        "addPlate", "addPlate", "addStar", "addStar", "addStar", "addStar", "addStar", "addStar", "addStar", "addStar",
        "addStar", "addStar", "addStar", "removeStar", "setShift", "setShift", "fit", "fit", "addSheet", "addSheet",
        "print", "print", "print", "print", "print", "print", "putInRack", "putInRack", "takeOut", "takeOut",
        "addInk", "addInk", "passHours", "passHours", "undo", "undo", "undo", "save", "restore", "writeRow",
        "sheetByMisprints", "matches", "execute", "text", "text", "text",
    };
    private static final String[] ASKED_ONCE = {
        "plateCount", "sheetCount", "hour", "refusalReason", "refusalDetail", "meanWetness", "smearedFraction",
        "isConsistent", "errorPosition", "failedCommand", "undoCount",
    };
    private static final String[] ASKED_BY_INDEX = {
        "inkOf", "starCount", "shiftX", "shiftY", "wouldSmear", "wetness", "smears", "misprints", "misprintsBySets",
        "sheetByMisprints", "rackPlace", "sheetInRack", "drops", "hoursUntilDry", "hoursUntilDryAtOnce",
    };
    private static final String[] ASKED_BY_PAIR = {
        "mostMatches", "mostMatchesByPairs", "bestShiftX", "bestShiftY", "placesOf",
    };
    private static final String[] ASKED_BY_PLACE = {"hasStar", "colour", "intended"};

    private final Random random;
    private final StarPress real = new StarPress();
    private final PlainModel model = new PlainModel();
    private final List<String> calls = new ArrayList<>();

    private ModelTest(int seed) {
        random = new Random(seed);
    }

    public static void main(String[] args) {
        for (int seed = 0; seed < RUNS; seed++) {
            ModelTest run = new ModelTest(seed);
            Check.part("run " + seed, run::run);
        }
        Check.finish("ModelTest");
    }

    private void run() {
        for (int call = 0; call < CALLS; call++) {
            String name = CALLED[random.nextInt(CALLED.length)];
            boolean agrees = name.equals("text") ? feedText() : agree(name, argumentsOf(name));
            if (!agrees || call % CALLS_PER_LOOK == 0 && !agreeEverywhere()) {
                // What comes after the first difference tells nothing new.
                System.out.println(calls);
                return;
            }
        }
    }

    private Object[] argumentsOf(String name) {
        int plate = random.nextInt(8) - 1;
        int sheet = random.nextInt(6) == 0 ? random.nextInt(10) - 1 : random.nextInt(4);
        switch (name) {
            case "addPlate":
                return new Object[] {random.nextInt(6)};
            case "addStar":
            case "removeStar":
                return new Object[] {plate, random.nextInt(18) - 1, random.nextInt(10) - 1};
            case "setShift":
                return new Object[] {plate, random.nextInt(9) - 4, random.nextInt(9) - 4};
            case "fit":
                return new Object[] {plate, random.nextInt(7)};
            case "print":
                return new Object[] {plate, sheet};
            case "putInRack":
            case "takeOut":
                return new Object[] {sheet};
            case "sheetByMisprints":
                return new Object[] {random.nextInt(10) - 1};
            case "addInk":
                return new Object[] {random.nextInt(5), random.nextInt(103) - 1};
            case "passHours":
                return new Object[] {random.nextInt(4) == 0 ? random.nextInt(54) - 1 : random.nextInt(4)};
            case "writeRow":
                return new Object[] {sheet, random.nextInt(10) - 1};
            case "matches":
                return new Object[] {plate, random.nextInt(7), random.nextInt(9) - 4, random.nextInt(9) - 4};
            default:
                return new Object[0];
        }
    }

    /** Feeds a text that is often well-formed, and mostly executes it. */
    private boolean feedText() {
        StringBuilder text = new StringBuilder(randomCommand());
        for (int more = random.nextInt(6); more > 0; more--) {
            text.append(';').append(randomCommand());
        }
        if (random.nextInt(3) == 0) {
            spoil(text);
        }
        for (int index = 0; index < text.length(); index++) {
            if (!agree("feed", text.charAt(index))) {
                return false;
            }
        }
        return random.nextInt(8) == 0 || agree("execute");
    }

    private void spoil(StringBuilder text) {
        String signs = "platesrhifnkouc my;,>+-0123456789P" + (char) 0 + (char) 0x661 + (char) 0xffff;
        int index = random.nextInt(text.length());
        switch (random.nextInt(4)) {
            case 0 -> text.setLength(index);
            case 1 -> text.deleteCharAt(index);
            case 2 -> text.setCharAt(index, signs.charAt(random.nextInt(signs.length())));
            default -> text.insert(index, signs.charAt(random.nextInt(signs.length())));
        }
    }

    private String randomCommand() {
        int a = random.nextInt(random.nextInt(6) == 0 ? 10 : 3);
        int b = random.nextInt(random.nextInt(6) == 0 ? 10 : 4);
        String number = random.nextBoolean() ? "" + random.nextInt(16) : "" + random.nextInt(10) + random.nextInt(10);
        return switch (random.nextInt(10)) {
            case 0 -> "plate " + "cmy".charAt(random.nextInt(3));
            case 1, 2 -> "star " + a + " " + number + "," + random.nextInt(9);
            case 3 -> "shift " + a + "+-".charAt(random.nextInt(2)) + b + "+-".charAt(random.nextInt(2)) + b;
            case 4 -> "sheet";
            case 5 -> "rack " + b;
            case 6 -> "out " + b;
            case 7 -> "hour " + number;
            default -> "print " + a + ">" + b;
        };
    }

    private boolean agreeEverywhere() {
        boolean agrees = agree("matches", 0, 1, 0, 0);
        for (String name : ASKED_ONCE) {
            agrees &= agree(name);
        }
        for (int index = -1; index <= 9; index++) {
            for (String name : ASKED_BY_INDEX) {
                agrees &= agree(name, index);
            }
        }
        for (int index = -1; index <= 16; index++) {
            agrees &= agree("outputCharacter", index);
        }
        for (int first = -1; first <= 8; first++) {
            for (int second = -1; second <= 8; second++) {
                for (String name : ASKED_BY_PAIR) {
                    agrees &= agree(name, first, second);
                }
            }
        }
        return agrees && agreeOnPlaces();
    }

    private boolean agreeOnPlaces() {
        boolean agrees = true;
        for (String name : ASKED_BY_PLACE) {
            for (int index = 0; index <= 8; index++) {
                for (int place = 0; place < 128; place++) {
                    agrees &= agree(name, index, place / 8, place % 8);
                }
            }
        }
        return agrees;
    }

    private boolean agree(String name, Object... arguments) {
        String call = name + Arrays.toString(arguments);
        Object got = answer(real, name, arguments);
        Object want = answer(model, name, arguments);
        if (Arrays.asList(CALLED).contains(name) || name.equals("feed")) {
            calls.add(call + "=" + want);
        }
        Check.same(call, got, want);
        return got.equals(want);
    }

    /** Returns what a call answers, or the class of what it throws. */
    private static Object answer(Object asked, String name, Object... arguments) {
        try {
            return method(asked.getClass(), name).invoke(asked, arguments);
        } catch (InvocationTargetException e) {
            return e.getCause().getClass();
        } catch (IllegalAccessException e) {
            throw new IllegalStateException(e);
        }
    }

    private static final java.util.Map<String, Method> METHODS = new java.util.HashMap<>();

    private static Method method(Class<?> type, String name) {
        return METHODS.computeIfAbsent(type.getName() + "." + name, key -> {
            for (Method method : type.getMethods()) {
                if (method.getName().equals(name)) {
                    return method;
                }
            }
            throw new IllegalStateException("no method " + key);
        });
    }
}

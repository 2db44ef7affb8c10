import java.util.ArrayList;
import java.util.List;
import java.util.Random;

/** Makes the same calls to the class and to PlainModel, and compares every answer and everything that can be asked. */
public final class ModelTest {
    private static final int RUNS = 200;
    private static final int CALLS_PER_LOOK = 29;
    // Later looks would need many shops that had all calls before.
    private static final int LATEST_LOOK = 400;

    // A method stands once for each time that it is as likely as one that stands once.
    private static final String[] CALLED = {
        "addPlate", "addPlate", "addStar", "addStar", "addStar", "addStar", "addStar", "addStar", "addStar", "addStar",
        "addStar", "addStar", "addStar", "removeStar", "setShift", "setShift", "fit", "fit", "addSheet", "addSheet",
        "print", "print", "print", "print", "print", "print", "putInRack", "putInRack", "takeOut", "takeOut",
        "addInk", "addInk", "passHours", "passHours", "undo", "undo", "undo", "save", "restore", "writeRow",
        "sheetByMisprints", "matches", "execute", "text", "text", "text",
    };

    private final Random random;
    private final StarPress real = new StarPress();
    private final PlainModel model = new PlainModel();
    private final List<Call> calls = new ArrayList<>();

    private ModelTest(int seed) {
        random = new Random(seed);
    }

    public static void main(String[] args) {
        for (int seed = 0; seed < RUNS; seed++) {
            ModelTest run = new ModelTest(seed);
            Check.part("run " + seed, run::run);
        }
        Check.finish("ModelTest");
    }

    private void run() {
        int nextLook = CALLS_PER_LOOK;
        while (calls.size() < Runs.MOST_CALLS) {
            boolean agrees = nextStep();
            if (calls.size() >= nextLook && calls.size() <= LATEST_LOOK) {
                agrees &= Runs.agree(calls, Runs.questions(model));
                nextLook = calls.size() + CALLS_PER_LOOK;
            }
            if (!agrees) {
                // What comes after the first difference tells nothing new.
                System.out.println(calls);
                return;
            }
        }
    }

    private boolean nextStep() {
        String name = CALLED[random.nextInt(CALLED.length)];
        return name.equals("text") ? feedText() : agree(name, argumentsOf(name));
    }

    private Object[] argumentsOf(String name) {
        int plate = random.nextInt(8) - 1;
        int sheet = random.nextInt(6) == 0 ? random.nextInt(10) - 1 : random.nextInt(4);
        switch (name) {
            case "addPlate":
                return new Object[] {random.nextInt(6)};
            case "addStar":
            case "removeStar":
                return new Object[] {plate, random.nextInt(18) - 1, random.nextInt(10) - 1};
            case "setShift":
                return new Object[] {plate, random.nextInt(9) - 4, random.nextInt(9) - 4};
            case "fit":
                return new Object[] {plate, random.nextInt(7)};
            case "print":
                return new Object[] {plate, sheet};
            case "putInRack":
            case "takeOut":
                return new Object[] {sheet};
            case "sheetByMisprints":
                return new Object[] {random.nextInt(10) - 1};
            case "addInk":
                return new Object[] {random.nextInt(5), random.nextInt(103) - 1};
            case "passHours":
                return new Object[] {random.nextInt(4) == 0 ? random.nextInt(54) - 1 : random.nextInt(4)};
            case "writeRow":
                return new Object[] {sheet, random.nextInt(10) - 1};
            case "matches":
                return new Object[] {plate, random.nextInt(7), random.nextInt(9) - 4, random.nextInt(9) - 4};
            default:
                return new Object[0];
        }
    }

    /** Feeds a text that is often well-formed, and mostly executes it. */
    private boolean feedText() {
        StringBuilder text = new StringBuilder(randomCommand());
        for (int more = random.nextInt(6); more > 0; more--) {
            text.append(';').append(randomCommand());
        }
        if (random.nextInt(3) == 0) {
            spoil(text);
        }
        boolean agrees = true;
        for (int index = 0; index < text.length() && calls.size() < Runs.MOST_CALLS; index++) {
            agrees &= agree("feed", text.charAt(index));
        }
        return agrees && (calls.size() >= Runs.MOST_CALLS || random.nextInt(8) == 0 || agree("execute"));
    }

    private void spoil(StringBuilder text) {
        String signs = "platesrhifnkouc my;,>+-0123456789P" + (char) 0 + (char) 0x661 + (char) 0xffff;
        int index = random.nextInt(text.length());
        switch (random.nextInt(4)) {
            case 0 -> text.setLength(index);
            case 1 -> text.deleteCharAt(index);
            case 2 -> text.setCharAt(index, signs.charAt(random.nextInt(signs.length())));
            default -> text.insert(index, signs.charAt(random.nextInt(signs.length())));
        }
    }

    private String randomCommand() {
        int a = random.nextInt(random.nextInt(6) == 0 ? 10 : 3);
        int b = random.nextInt(random.nextInt(6) == 0 ? 10 : 4);
        String number = random.nextBoolean() ? "" + random.nextInt(16) : "" + random.nextInt(10) + random.nextInt(10);
        return switch (random.nextInt(10)) {
            case 0 -> "plate " + "cmy".charAt(random.nextInt(3));
            case 1, 2 -> "star " + a + " " + number + "," + random.nextInt(9);
            case 3 -> "shift " + a + "+-".charAt(random.nextInt(2)) + b + "+-".charAt(random.nextInt(2)) + b;
            case 4 -> "sheet";
            case 5 -> "rack " + b;
            case 6 -> "out " + b;
            case 7 -> "hour " + number;
            default -> "print " + a + ">" + b;
        };
    }

    private boolean agree(String name, Object... arguments) {
        Call call = new Call(name, arguments);
        calls.add(call);
        return call.agrees(real, model);
    }
}

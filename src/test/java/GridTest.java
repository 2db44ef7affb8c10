import java.util.ArrayList;
import java.util.LinkedHashMap;
import java.util.List;
import java.util.Map;

/**
 * Makes every call with every combination of the values at its bounds, the smallest and the largest int among them, in
 * an empty, a used and a full shop, and compares its answer and what is left after it with PlainModel.
 */
public final class GridTest {
    private static final int MIN = Integer.MIN_VALUE;
    private static final int MAX = Integer.MAX_VALUE;
    private static final int[] INDICES = {MIN, -1, 0, 1, 2, 5, 6, 7, 8, MAX};
    private static final int[] PLATES = {MIN, -1, 0, 1, 2, 5, 6, MAX};
    private static final int[] COLUMNS = {MIN, -1, 0, 3, 15, 16, MAX};
    private static final int[] ROWS = {MIN, -1, 0, 3, 7, 8, MAX};
    private static final int[] SHIFTS = {MIN, -4, -3, 0, 3, 4, MAX};
    private static final int[] INKS = {MIN, -1, 0, 1, 2, 3, 4, 5, 6, 7, 8, MAX};
    private static final int[] DROPS = {MIN, -1, 0, 1, 2, 99, 100, MAX};
    private static final int[] HOURS = {MIN, -1, 0, 1, 2, 50, 51, MAX};
    private static final int[] PLACES_AND_SIGNS = {MIN, -1, 0, 1, 2, 3, 15, 16, MAX};

    private static final Map<String, int[][]> CHANGES = changes();
    private static final Map<String, int[][]> QUESTIONS = questions();

    private static Map<String, int[][]> changes() {
        Map<String, int[][]> changes = new LinkedHashMap<>();
        changes.put("addPlate", new int[][] {INKS});
        changes.put("addStar", new int[][] {PLATES, COLUMNS, ROWS});
        changes.put("removeStar", new int[][] {PLATES, COLUMNS, ROWS});
        changes.put("setShift", new int[][] {PLATES, SHIFTS, SHIFTS});
        changes.put("fit", new int[][] {PLATES, PLATES});
        changes.put("addSheet", new int[][] {});
        changes.put("print", new int[][] {PLATES, INDICES});
        changes.put("putInRack", new int[][] {INDICES});
        changes.put("takeOut", new int[][] {INDICES});
        changes.put("addInk", new int[][] {INKS, DROPS});
        changes.put("passHours", new int[][] {HOURS});
        changes.put("execute", new int[][] {});
        changes.put("undo", new int[][] {});
        changes.put("save", new int[][] {});
        changes.put("restore", new int[][] {});
        changes.put("writeRow", new int[][] {INDICES, ROWS});
        return changes;
    }

    private static Map<String, int[][]> questions() {
        Map<String, int[][]> questions = new LinkedHashMap<>();
        for (String name : List.of("plateCount", "sheetCount", "hour", "undoCount", "refusalReason", "refusalDetail",
                "errorPosition", "failedCommand", "meanWetness", "smearedFraction", "isConsistent")) {
            questions.put(name, new int[][] {});
        }
        for (String name : List.of("inkOf", "starCount", "shiftX", "shiftY", "wouldSmear", "wetness", "smears",
                "misprints", "misprintsBySets", "sheetByMisprints", "rackPlace", "hoursUntilDry",
                "hoursUntilDryAtOnce")) {
            questions.put(name, new int[][] {INDICES});
        }
        for (String name : List.of("mostMatches", "mostMatchesByPairs", "bestShiftX", "bestShiftY")) {
            questions.put(name, new int[][] {PLATES, PLATES});
        }
        questions.put("drops", new int[][] {INKS});
        questions.put("sheetInRack", new int[][] {PLACES_AND_SIGNS});
        questions.put("outputCharacter", new int[][] {PLACES_AND_SIGNS});
        questions.put("placesOf", new int[][] {INDICES, INKS});
        questions.put("hasStar", new int[][] {PLATES, COLUMNS, ROWS});
        questions.put("colour", new int[][] {INDICES, COLUMNS, ROWS});
        questions.put("intended", new int[][] {INDICES, COLUMNS, ROWS});
        questions.put("matches", new int[][] {PLATES, PLATES, SHIFTS, SHIFTS});
        return questions;
    }

    public static void main(String[] args) {
        Check.part("an empty shop", () -> compare(List.of()));
        Check.part("a used shop", () -> compare(Runs.used()));
        Check.part("a full shop", () -> compare(Runs.full()));
        Check.finish("GridTest");
    }

    /** Returns the calls of a name with every combination of the values of its arguments. */
    private static List<Call> grid(String name, int[][] values) {
        List<Call> calls = new ArrayList<>();
        int combinations = 1;
        for (int[] some : values) {
            combinations *= some.length;
        }
        for (int number = 0; number < combinations; number++) {
            Object[] arguments = new Object[values.length];
            int rest = number;
            for (int index = 0; index < values.length; index++) {
                arguments[index] = values[index][rest % values[index].length];
                rest /= values[index].length;
            }
            calls.add(new Call(name, arguments));
        }
        return calls;
    }

    private static void compare(List<Call> before) {
        List<Call> asked = new ArrayList<>();
        QUESTIONS.forEach((name, values) -> asked.addAll(grid(name, values)));
        Runs.agree(before, asked);
        List<Call> shortly = new ArrayList<>();
        QUESTIONS.forEach((name, values) -> {
            if (values.length < 2) {
                shortly.addAll(grid(name, values));
            }
        });
        CHANGES.forEach((name, values) -> {
            for (Call change : grid(name, values)) {
                List<Call> calls = new ArrayList<>();
                calls.add(change);
                calls.addAll(shortly);
                calls.add(new Call("undo"));
                calls.add(new Call("hour"));
                calls.add(new Call("undoCount"));
                Runs.agree(before, calls);
            }
        });
    }
}

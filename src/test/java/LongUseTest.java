import java.util.ArrayList;
import java.util.List;

/**
 * An object is used for at most 512 calls: each call of the face is made over and over again up to the last promised
 * answer, and every answer is compared with that of PlainModel.
 */
public final class LongUseTest {
    // Each row: calls that are made in turn; what follows " is fed and executed, what follows ' is only fed.
    private static final String[] CYCLES = {
        "addPlate 1", "addPlate 4, undo", "addStar 0 9 4", "addStar 1 9 4, removeStar 1 9 4", "addStar 0 9 4, undo",
        "removeStar 0 3 3, undo", "setShift 0 3 -3", "setShift 1 -1 2, undo", "setShift 0 1 1, setShift 0 0 2",
        "fit 0 1", "fit 1 0, undo", "plateCount", "inkOf 1", "starCount 0", "hasStar 0 15 0", "shiftX 1", "shiftY 1",
        "matches 0 1 0 0", "mostMatches 0 1", "mostMatchesByPairs 1 0", "bestShiftX 0 1", "bestShiftY 0 1",
        "addSheet", "addSheet, undo", "print 0 1", "print 1 1, addInk 4 2", "print 0 1, undo", "print 0 1, passHours 1",
        "print 0 2", "wouldSmear 0", "sheetCount", "colour 0 1 0", "intended 0 0 3", "placesOf 0 1", "wetness 0",
        "smears 0", "misprints 0", "misprintsBySets 0", "sheetByMisprints 2", "putInRack 0", "putInRack 1, takeOut 1",
        "putInRack 1, undo", "takeOut 0", "takeOut 0, undo", "takeOut 0, putInRack 0", "rackPlace 0", "sheetInRack 0",
        "addInk 2 1", "addInk 1 99", "addInk 1 99, undo", "drops 4", "passHours 1", "passHours 50", "passHours 49",
        "passHours 3, undo", "hour", "hoursUntilDry 0", "hoursUntilDryAtOnce 0", "refusalReason", "refusalDetail",
        "meanWetness", "smearedFraction", "writeRow 0 0", "writeRow 0 0, outputCharacter 15, writeRow 1 3",
        "outputCharacter 0", "isConsistent", "\"sheet", "\"sheet, undo", "\"hour 50", "\"rack 0;out 0", "\"out 9",
        "\"shee", "\"", "'s", "'s, \"heet", "errorPosition", "failedCommand", "undo", "undo, passHours 1, passHours 2",
        "undoCount", "save", "save, passHours 1", "restore", "restore, passHours 1", "save, passHours 1, restore",
        "passHours 1, undo, undo", "passHours 50, save, restore, hour", "passHours 50, passHours 50, undo, hour",
        "print 0 1, addInk 1 2, save, restore, smears 1", "print 0 1, addInk 1 2, undo, smears 1",
    };

    private static final String BEGINNING = "addPlate 1, addPlate 4, addStar 0 0 0, addStar 0 3 3, addStar 1 15 0, "
            + "addSheet, addSheet, addSheet, print 0 0, print 1 0, print 0 1, putInRack 2, putInRack 0, print 0 2, "
            + "writeRow 0 0, save, \", passHours 1";

    public static void main(String[] args) {
        for (String cycle : CYCLES) {
            Check.part(cycle + " from the first call on", () -> compare(new ArrayList<>(), cycle));
            Check.part(cycle + " after few calls", () -> compare(callsOf(BEGINNING), cycle));
            Check.part(cycle + " after many calls", () -> compare(Runs.used(), cycle));
        }
        Check.finish("LongUseTest");
    }

    private static void compare(List<Call> before, String cycle) {
        List<Call> calls = new ArrayList<>(before);
        List<Call> repeated = callsOf(cycle);
        while (calls.size() < Runs.MOST_CALLS - 1) {
            calls.add(repeated.get((calls.size() - before.size()) % repeated.size()));
        }
        StarPress real = new StarPress();
        PlainModel model = new PlainModel();
        for (Call call : calls) {
            if (!call.agrees(real, model)) {
                // What comes after the first difference tells nothing new.
                return;
            }
        }
        Runs.agree(calls, lastCalls());
    }

    private static List<Call> callsOf(String cycle) {
        List<Call> calls = new ArrayList<>();
        for (String words : cycle.split(", ")) {
            if (words.startsWith("\"")) {
                Runs.addText(calls, words.substring(1));
                continue;
            }
            if (words.startsWith("'")) {
                calls.add(new Call("feed", words.charAt(1)));
                continue;
            }
            String[] parts = words.split(" ");
            Object[] numbers = new Object[parts.length - 1];
            for (int index = 0; index < numbers.length; index++) {
                numbers[index] = Integer.valueOf(parts[index + 1]);
            }
            calls.add(new Call(parts[0], numbers));
        }
        return calls;
    }

    /** Returns calls that are each made as the last one. */
    private static List<Call> lastCalls() {
        return callsOf("plateCount, sheetCount, hour, undoCount, isConsistent, meanWetness, smearedFraction, drops 1, "
                + "drops 2, drops 4, placesOf 0 1, placesOf 1 3, wetness 1, smears 1, misprints 1, starCount 0, "
                + "shiftX 0, rackPlace 0, outputCharacter 1, errorPosition, failedCommand, refusalReason, "
                + "refusalDetail, undo, save, restore, addSheet, execute, 'x");
    }
}

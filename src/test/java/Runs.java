import java.util.ArrayList;
import java.util.List;

/** Runs of calls that bring a shop somewhere, and all that can be asked there, of the class and of PlainModel alike. */
final class Runs {
    static final int MOST_CALLS = 512;

    private static final String[] ASKED_ONCE = {
        "plateCount", "sheetCount", "hour", "refusalReason", "refusalDetail", "meanWetness", "smearedFraction",
        "isConsistent", "errorPosition", "failedCommand", "undoCount",
    };
    private static final String[] ASKED_BY_INDEX = {
        "inkOf", "starCount", "shiftX", "shiftY", "wouldSmear", "wetness", "smears", "misprints", "misprintsBySets",
        "sheetByMisprints", "rackPlace", "sheetInRack", "drops", "hoursUntilDry", "hoursUntilDryAtOnce",
    };
    private static final String[] ASKED_BY_PAIR = {
        "mostMatches", "mostMatchesByPairs", "bestShiftX", "bestShiftY", "placesOf",
    };

    private Runs() {
    }

    /** A shop that something of everything was done to. */
    static List<Call> used() {
        List<Call> calls = new ArrayList<>();
        addText(calls, "plate c;plate y;star 0 0,0;star 0 15,0;star 0 3,3");
        addText(calls, "star 1 15,7;star 1 0,3;sheet;sheet;sheet;print 0>0;hour 1");
        addText(calls, "shift 1+2-1;print 1>0;rack 0;rack 2;out 0;sheep");
        calls.add(new Call("save"));
        addText(calls, "rack 0;rack 2;out 1");
        calls.add(new Call("print", 1, 1));
        calls.add(new Call("writeRow", 0, 0));
        addText(calls, "print 1>0;out 2;hour 1");
        return calls;
    }

    /** A shop with as many plates, stars and sheets as there can be, a full rack, no CYAN and all MAGENTA drops. */
    static List<Call> full() {
        List<Call> calls = new ArrayList<>();
        for (int plate = 0; plate < 6; plate++) {
            calls.add(new Call("addPlate", 1 << plate % 3));
            addStars(calls, plate, 20 * plate, 20);
        }
        for (int sheet = 0; sheet < 8; sheet++) {
            calls.add(new Call("addSheet"));
        }
        for (int drops : new int[] {99, 99, 99, 99, 43}) {
            calls.add(new Call("addInk", 2, drops));
        }
        for (int sheet = 2; sheet >= 0; sheet--) {
            calls.add(new Call("print", 0, sheet));
            calls.add(new Call("putInRack", sheet));
        }
        calls.add(new Call("save"));
        calls.add(new Call("passHours", 1));
        calls.add(new Call("print", 5, 7));
        addText(calls, "sheet;sheet;sheet;sheet;sheet;sheet;sheet;sheet;rack 0;out 0");
        return calls;
    }

    /**
     * A shop one step from its bounds: a plate and a sheet less than there can be; plates with 19, 1, 20, no and 4
     * stars, each with a shift; a free place in the middle of the rack; 3, 500 and 499 drops; an odd hour above 1,000.
     */
    static List<Call> nearlyFull() {
        List<Call> calls = new ArrayList<>();
        int[][] plates = {{1, 19, 2, -1}, {2, 1, -3, 3}, {4, 20, 0, 3}, {1, 0, 1, 1}, {2, 4, -1, 0}};
        for (int plate = 0; plate < plates.length; plate++) {
            calls.add(new Call("addPlate", plates[plate][0]));
            addStars(calls, plate, 22 * plate + 7, plates[plate][1]);
            calls.add(new Call("setShift", plate, plates[plate][2], plates[plate][3]));
        }
        for (int sheet = 0; sheet < 7; sheet++) {
            calls.add(new Call("addSheet"));
        }
        for (int times = 0; times < 20; times++) {
            calls.add(new Call("passHours", 50));
        }
        int[][] prints = {{0, 0}, {0, 1}, {0, 1}, {1, 0}, {2, 2}, {2, 6}, {4, 2}, {1, 5}};
        for (int[] print : prints) {
            calls.add(new Call("print", print[0], print[1]));
        }
        for (int sheet : new int[] {6, 3, 1}) {
            calls.add(new Call("putInRack", sheet));
        }
        calls.add(new Call("takeOut", 3));
        calls.add(new Call("passHours", 1));
        for (int drops : new int[] {99, 99, 99, 99, 50}) {
            calls.add(new Call("addInk", 2, drops));
            calls.add(new Call("addInk", 4, drops == 50 ? 83 : drops));
        }
        calls.add(new Call("print", 0, 6));
        return calls;
    }

    /** Adds calls that add stars at places that are counted row by row. */
    private static void addStars(List<Call> calls, int plate, int first, int count) {
        for (int place = first; place < first + count; place++) {
            calls.add(new Call("addStar", plate, place % 16, place / 16));
        }
    }

    static void addText(List<Call> calls, String text) {
        for (char sign : text.toCharArray()) {
            calls.add(new Call("feed", sign));
        }
        calls.add(new Call("execute"));
    }

    /** Returns every question that has an answer in a shop like the model, and some that have none. */
    static List<Call> questions(PlainModel model) {
        List<Call> questions = new ArrayList<>();
        for (String name : ASKED_ONCE) {
            questions.add(new Call(name));
        }
        for (int index = -1; index <= 16; index++) {
            questions.add(new Call("outputCharacter", index));
        }
        int most = Math.max(model.plateCount(), model.sheetCount());
        for (int first = -1; first <= most; first++) {
            for (String name : ASKED_BY_INDEX) {
                questions.add(new Call(name, first));
            }
            for (int second = -1; second <= 8; second++) {
                for (String name : ASKED_BY_PAIR) {
                    questions.add(new Call(name, first, second));
                }
            }
        }
        addPlaceQuestions(questions, "hasStar", model.plateCount());
        addPlaceQuestions(questions, "colour", model.sheetCount());
        addPlaceQuestions(questions, "intended", model.sheetCount());
        return questions;
    }

    private static void addPlaceQuestions(List<Call> questions, String name, int count) {
        for (int index = 0; index < count; index++) {
            for (int place = 0; place < 128; place++) {
                questions.add(new Call(name, index, place % 16, place / 16));
            }
        }
    }

    /** Expects the same answers of shops and models that had the same calls, each up to its last promised one. */
    static boolean agree(List<Call> before, List<Call> calls) {
        int most = MOST_CALLS - before.size();
        boolean agrees = true;
        for (int first = 0; first < calls.size(); first += most) {
            StarPress real = Call.realAfter(before);
            PlainModel model = Call.modelAfter(before);
            for (Call call : calls.subList(first, Math.min(calls.size(), first + most))) {
                agrees &= call.agrees(real, model);
            }
        }
        return agrees;
    }
}

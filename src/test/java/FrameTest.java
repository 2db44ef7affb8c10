import java.util.ArrayList;
import java.util.List;

/**
 * Each change changes what its promise says and nothing else: after every change that succeeds in a shop, everything
 * that can be asked is compared with PlainModel, and once more after the change was undone, or the shop restored.
 */
public final class FrameTest {
    private static final String[] TEXTS = {
        "plate m", "star 0 9,4", "star 3 15,7", "shift 0-3+3", "sheet", "print 3>0", "print 1>5", "rack 0", "out 1",
        "hour 2", "star 1 8,6;print 1>3;hour 1;print 1>3", "sheet;rack 0;out 0;rack 0;print 3>2;shift 3+0+0;star 3 0,0",
    };

    public static void main(String[] args) {
        Check.part("an empty shop", () -> compareAll(List.of()));
        Check.part("a used shop", () -> compareAll(Runs.used()));
        Check.part("a full shop", () -> compareAll(Runs.full()));
        Check.part("a shop one step from its bounds", () -> compareAll(Runs.nearlyFull()));
        Check.finish("FrameTest");
    }

    private static void compareAll(List<Call> before) {
        PlainModel model = Call.modelAfter(before);
        int compared = 0;
        for (List<Call> change : changes(model)) {
            if (succeeds(before, change)) {
                compare(before, change);
                compared++;
            }
        }
        Check.isTrue("some changes succeed", compared > 3);
    }

    private static boolean succeeds(List<Call> before, List<Call> change) {
        PlainModel model = Call.modelAfter(before);
        Object answer = null;
        for (Call call : change) {
            answer = call.answer(model);
        }
        return !(answer instanceof Class);
    }

    private static void compare(List<Call> before, List<Call> change) {
        compareAfter(with(before, change));
        compareAfter(with(before, change, List.of(new Call("undo"))));
        compareAfter(with(before, List.of(new Call("save")), change, List.of(new Call("restore"))));
    }

    private static void compareAfter(List<Call> calls) {
        if (!Runs.agree(calls, Runs.questions(Call.modelAfter(calls)))) {
            System.out.println("after " + calls);
        }
    }

    @SafeVarargs
    private static List<Call> with(List<Call>... parts) {
        List<Call> all = new ArrayList<>();
        for (List<Call> part : parts) {
            all.addAll(part);
        }
        return all;
    }

    private static List<List<Call>> changes(PlainModel model) {
        List<List<Call>> changes = new ArrayList<>();
        for (int ink : Shops.INKS) {
            add(changes, "addPlate", ink);
            for (int drops : new int[] {1, 2, 99}) {
                add(changes, "addInk", ink, drops);
            }
        }
        add(changes, "addSheet");
        for (int hours : new int[] {1, 2, 3, 50}) {
            add(changes, "passHours", hours);
        }
        for (int plate = 0; plate < model.plateCount(); plate++) {
            addOfPlate(changes, model, plate);
        }
        for (int sheet = 0; sheet < model.sheetCount(); sheet++) {
            add(changes, "putInRack", sheet);
            add(changes, "takeOut", sheet);
        }
        for (String text : TEXTS) {
            List<Call> calls = new ArrayList<>();
            Runs.addText(calls, text);
            changes.add(calls);
        }
        for (String name : new String[] {"undo", "save", "restore"}) {
            add(changes, name);
        }
        return changes;
    }

    private static void addOfPlate(List<List<Call>> changes, PlainModel model, int plate) {
        int stars = model.starCount(plate);
        for (int place = 0; place < 128; place++) {
            boolean isStar = model.hasStar(plate, place % 16, place / 16);
            if (isStar ? stars < 4 || place % 5 == 4 : place % 41 == 0) {
                add(changes, isStar ? "removeStar" : "addStar", plate, place % 16, place / 16);
            }
        }
        for (int shift = 0; shift < 49; shift += 4) {
            add(changes, "setShift", plate, shift / 7 - 3, shift % 7 - 3);
        }
        for (int other = 0; other < model.plateCount(); other++) {
            add(changes, "fit", plate, other);
        }
        for (int sheet = 0; sheet < model.sheetCount(); sheet++) {
            add(changes, "print", plate, sheet);
        }
    }

    private static void add(List<List<Call>> changes, String name, Object... arguments) {
        changes.add(List.of(new Call(name, arguments)));
    }
}

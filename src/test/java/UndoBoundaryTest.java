import java.util.List;
import java.util.function.Consumer;
import java.util.function.Supplier;

/** Each sentence on undo, saving and restoring that names a boundary case, or what they affect and what not. */
public final class UndoBoundaryTest {
    public static void main(String[] args) {
        Check.part("Undo: a successful call of these is a change", UndoBoundaryTest::changes);
        Check.part("Undo: ten commands are one change", UndoBoundaryTest::manyCommands);
        Check.part("Undo: no other call is a change", UndoBoundaryTest::otherCalls);
        Check.part("Undo: at most the latest 8 changes", UndoBoundaryTest::latestEight);
        Check.part("Undo: changes that are not undone", UndoBoundaryTest::afterUndo);
        Check.part("Undo: at most 8, by each number of changes", UndoBoundaryTest::eachNumber);
        Check.part("Undo: a full history and calls that throw", UndoBoundaryTest::fullHistory);
        Check.part("Undo: what is affected neither by undo nor by saving", UndoBoundaryTest::unaffected);
        Check.part("undo: if there is none", UndoBoundaryTest::nothingToUndo);
        Check.part("save: everything that changes can change", UndoBoundaryTest::everythingIsSaved);
        Check.part("save: plates and sheets that were undone since", UndoBoundaryTest::undoneSinceSaved);
        Check.part("save: in place of what was saved before", UndoBoundaryTest::savedBefore);
        Check.part("save: empty and full", UndoBoundaryTest::emptyAndFull);
        Check.part("restore: if nothing was saved", UndoBoundaryTest::nothingSaved);
        Check.part("restore: what was saved stays saved", UndoBoundaryTest::staysSaved);
        Check.part("restore: no change can be undone", UndoBoundaryTest::noUndoAfterRestore);
        Check.part("512 calls", UndoBoundaryTest::mostCalls);
        Check.finish("UndoBoundaryTest");
    }

    /** A shop that has something of everything. */
    private static StarPress used() {
        StarPress x = Shops.withSheets(3);
        x.addPlate(StarPress.CYAN);
        x.addPlate(StarPress.YELLOW);
        Shops.addStars(x, 0, 14, 5);
        x.addStar(1, 15, 1);
        x.setShift(1, -1, 2);
        x.print(0, 0);
        x.print(1, 0);
        x.print(1, 2);
        x.putInRack(2);
        x.addInk(2, 9);
        x.passHours(1);
        return x;
    }

    /** What is told of a shop but the number of its changes. */
    private static List<String> toldOf(Supplier<StarPress> maker) {
        return Shops.without(Shops.told(maker), "changes");
    }

    private static StarPress usedWithoutChanges() {
        StarPress x = used();
        x.save();
        x.restore();
        return x;
    }

    private record Change(String name, Consumer<StarPress> call) {
    }

    private static final List<Change> CHANGES = List.of(
            new Change("addPlate", x -> x.addPlate(2)),
            new Change("addStar", x -> x.addStar(0, 9, 4)),
            new Change("removeStar", x -> x.removeStar(0, 14, 0)),
            new Change("setShift", x -> x.setShift(0, 3, -3)),
            new Change("setShift to the same", x -> x.setShift(1, -1, 2)),
            new Change("fit", x -> x.fit(1, 0)),
            new Change("fit to the same", x -> x.fit(0, 1)),
            new Change("addSheet", x -> x.addSheet()),
            new Change("print on a wet sheet", x -> x.print(0, 0)),
            new Change("print on a dry sheet", x -> x.print(1, 1)),
            new Change("putInRack", x -> x.putInRack(0)),
            new Change("takeOut", x -> x.takeOut(2)),
            new Change("addInk", x -> x.addInk(4, 1)),
            new Change("passHours", x -> x.passHours(50)),
            new Change("execute", x -> Shops.executed(x, "hour 1")),
            new Change("execute of many", x -> Shops.executed(x, "plate m;sheet;out 2;print 0>2;rack 1;star 2 0,0")));

    private static StarPress changedAndUndone(Change change) {
        StarPress x = used();
        change.call().accept(x);
        x.undo();
        return x;
    }

    private static void changes() {
        for (Change change : CHANGES) {
            StarPress x = usedWithoutChanges();
            change.call().accept(x);
            Check.same("changes after " + change.name(), x.undoCount(), 1);
            change(x);
            Check.same("changes left", x.undo(), 1);
            Check.same("changes left after undo of " + change.name(), x.undo(), 0);
            Check.throwsState("undo of nothing", x::undo);
            Check.sameLines("undo of " + change.name(), toldOf(() -> changedAndUndone(change)),
                    toldOf(UndoBoundaryTest::used));
        }
    }

    private static void change(StarPress x) {
        x.passHours(1);
    }

    private static void manyCommands() {
        StarPress x = new StarPress();
        x.passHours(1);
        Check.same("commands", Shops.executed(x, "sheet;sheet;sheet;sheet;sheet;sheet;sheet;sheet;rack 0;out 0"), 10);
        Check.same("changes", x.undoCount(), 2);
        Check.same("changes left", x.undo(), 1);
        Check.same("sheets", x.sheetCount(), 0);
        Check.same("hour", x.hour(), 1);
    }

    private static void otherCalls() {
        StarPress x = usedWithoutChanges();
        change(x);
        Shops.answer(x::plateCount);
        Shops.answer(() -> x.matches(0, 1, 1, 1));
        Shops.answer(() -> x.mostMatches(0, 1) + x.mostMatchesByPairs(0, 1) + x.bestShiftX(0, 1));
        Shops.answer(() -> x.misprints(0) + x.misprintsBySets(0) + x.sheetByMisprints(0) + x.placesOf(0, 0));
        Shops.answer(() -> x.hoursUntilDry(0) + x.hoursUntilDryAtOnce(0) + x.drops(1));
        Shops.answer(() -> x.writeRow(0, 0) + x.outputCharacter(0));
        Shops.answer(() -> x.feed('s'));
        Shops.answer(x::execute);
        Shops.answer(() -> x.print(0, 2));
        Shops.answer(() -> x.addPlate(3));
        Shops.answer(x::isConsistent);
        Shops.answer(x::save);
        Check.same("changes", x.undoCount(), 1);
        Check.same("changes left", x.undo(), 0);
        Check.same("hour", x.hour(), 1);
    }

    private static void latestEight() {
        StarPress x = new StarPress();
        for (int changes = 1; changes <= 9; changes++) {
            x.passHours(changes);
            Check.same("changes", x.undoCount(), Math.min(8, changes));
        }
        int hour = 45;
        for (int left = 7; left >= 0; left--) {
            Check.same("changes left", x.undo(), left);
            Check.same("changes", x.undoCount(), left);
            hour -= left + 2;
            Check.same("hour", x.hour(), hour);
        }
        Check.throwsState("undo of the ninth latest change", x::undo);
        Check.same("hour", x.hour(), 1);
        Check.same("changes", x.undoCount(), 0);
    }

    private static void afterUndo() {
        StarPress x = new StarPress();
        for (int changes = 0; changes < 8; changes++) {
            x.passHours(1);
        }
        Check.same("changes left", x.undo(), 7);
        Check.same("changes left", x.undo(), 6);
        x.passHours(10);
        Check.same("changes", x.undoCount(), 7);
        x.passHours(20);
        Check.same("changes", x.undoCount(), 8);
        x.passHours(30);
        Check.same("changes", x.undoCount(), 8);
        int[] hours = {36, 16, 6, 5, 4, 3, 2, 1};
        for (int left = 7; left >= 0; left--) {
            Check.same("changes left", x.undo(), left);
            Check.same("hour", x.hour(), hours[7 - left]);
        }
        Check.throwsState("undo of the first change, which is the ninth latest", x::undo);
    }

    private static void eachNumber() {
        for (int changes = 0; changes <= 30; changes++) {
            StarPress x = new StarPress();
            for (int call = 0; call < changes; call++) {
                x.passHours(1);
            }
            int most = Math.min(8, changes);
            Check.same("changes of " + changes, x.undoCount(), most);
            for (int left = most - 1; left >= 0; left--) {
                Check.same("changes left of " + changes, x.undo(), left);
            }
            Check.throwsState("undo of no more", x::undo);
            Check.same("hour", x.hour(), changes - most);
        }
    }

    private static void fullHistory() {
        StarPress x = Shops.withSheets(4);
        for (int sheet = 0; sheet < 3; sheet++) {
            x.putInRack(sheet);
        }
        for (int hours = 1; hours <= 8; hours++) {
            x.passHours(hours);
        }
        for (int times = 0; times < 10; times++) {
            Check.throwsUnsupported("a refused call", () -> x.putInRack(3));
            Check.throwsArgument("a wrong call", () -> x.passHours(0));
            Shops.feedAll(x, "hour 9;hour 9;out 3");
            Check.throwsUnsupported("a failed command", x::execute);
        }
        Check.same("changes", x.undoCount(), 8);
        int hour = 36;
        for (int hours = 8; hours >= 1; hours--) {
            Check.same("changes left", x.undo(), hours - 1);
            hour -= hours;
            Check.same("hour", x.hour(), hour);
        }
    }

    private static void unaffected() {
        StarPress x = usedWithoutChanges();
        Shops.feedAll(x, "shout");
        Check.throwsArgument("shout", x::execute);
        x.save();
        x.passHours(1);
        x.addSheet();
        Shops.feedAll(x, "out 1");
        Check.throwsUnsupported("out 1", x::execute);
        Check.throwsUnsupported("a print in the rack", () -> x.print(0, 2));
        x.writeRow(0, 0);
        Shops.feedAll(x, "she");
        keptBy(x, "an undo", x::undo);
        keptBy(x, "a save", x::save);
        x.passHours(1);
        keptBy(x, "a restore", x::restore);
        keptBy(x, "an undo that throws", () -> Shops.answer(x::undo));
        Check.same("the rest of the text", Shops.executed(x, "et"), 1);
    }

    private static void keptBy(StarPress x, String what, Runnable call) {
        char first = x.outputCharacter(15);
        call.run();
        Check.same("error position after " + what, x.errorPosition(), 2);
        Check.same("failed command after " + what, x.failedCommand(), 0);
        Check.same("reason after " + what, x.refusalReason(), StarPress.IN_RACK);
        Check.same("detail after " + what, x.refusalDetail(), 0);
        Check.same("output after " + what, x.outputCharacter(15), first);
    }

    private static void nothingToUndo() {
        StarPress x = new StarPress();
        Check.throwsState("undo of a new shop", x::undo);
        Check.same("changes", x.undoCount(), 0);
        x.addSheet();
        Check.same("changes left", x.undo(), 0);
        Check.throwsState("undo of nothing", x::undo);
        Check.same("sheets", x.sheetCount(), 0);
        x.addSheet();
        x.save();
        x.restore();
        Check.throwsState("undo after restore", x::undo);
        Check.same("sheets", x.sheetCount(), 1);
    }

    // Saved state

    private static StarPress savedAndRestored(Consumer<StarPress> between) {
        StarPress x = used();
        x.save();
        between.accept(x);
        x.restore();
        return x;
    }

    private static void everythingIsSaved() {
        List<String> due = toldOf(UndoBoundaryTest::used);
        for (Change change : CHANGES) {
            Check.sameLines("what was saved before " + change.name(),
                    toldOf(() -> savedAndRestored(change.call())), due);
            Supplier<StarPress> twice = () -> savedAndRestored(x -> {
                change.call().accept(x);
                x.restore();
                change.call().accept(x);
            });
            Check.sameLines("what was saved before " + change.name() + " twice", toldOf(twice), due);
        }
    }

    private static void undoneSinceSaved() {
        StarPress x = new StarPress();
        x.addPlate(StarPress.YELLOW);
        x.addSheet();
        x.save();
        x.undo();
        x.undo();
        Shops.executed(x, "plate m;star 0 1,1;shift 0+1+1;sheet;sheet;print 0>0;rack 0");
        Check.same("ink", x.inkOf(0), StarPress.MAGENTA);
        Check.same("sheets", x.restore(), 1);
        Check.same("ink", x.inkOf(0), StarPress.YELLOW);
        Check.same("stars", x.starCount(0), 0);
        Check.same("shift", x.shiftX(0) + ", " + x.shiftY(0), "0, 0");
        Check.same("places without colour", x.placesOf(0, 0), 128);
        Check.throwsElement("place in the rack", () -> x.rackPlace(0));
    }

    private static void savedBefore() {
        StarPress x = new StarPress();
        for (int count = 0; count <= 8; count++) {
            Check.same("sheets", x.save(), count);
            Shops.answer(x::addSheet);
            Check.same("sheets", x.restore(), count);
            Shops.answer(x::addSheet);
        }
        x.passHours(7);
        Check.same("sheets of the latest save", x.restore(), 8);
        Check.same("hour of the latest save", x.hour(), 0);
    }

    private static void emptyAndFull() {
        StarPress x = new StarPress();
        Check.same("sheets", x.save(), 0);
        Shops.executed(x, "sheet;plate c;rack 0;hour 5");
        x.addInk(1, 9);
        Check.same("sheets", x.restore(), 0);
        Check.sameLines("the empty shop", Shops.told(UndoBoundaryTest::restoredToEmpty), Shops.told(StarPress::new));
        StarPress full = Shops.withSheets(8);
        Check.same("sheets", full.save(), 8);
        full.undo();
        Check.same("sheets", full.restore(), 8);
        Check.throwsState("a ninth sheet", full::addSheet);
    }

    private static StarPress restoredToEmpty() {
        StarPress x = new StarPress();
        x.save();
        Shops.executed(x, "sheet;plate c;star 0 1,1;shift 0+1+1;print 0>0;rack 0;hour 5");
        x.addInk(1, 9);
        x.restore();
        return x;
    }

    private static void nothingSaved() {
        StarPress x = Shops.withSheets(2);
        Check.throwsState("restore", x::restore);
        Check.same("sheets", x.sheetCount(), 2);
        Check.same("changes", x.undoCount(), 2);
        x.undo();
        Check.throwsState("restore after undo", x::restore);
        Check.same("sheets", x.sheetCount(), 1);
        x.save();
        Check.same("sheets", x.restore(), 1);
    }

    private static void staysSaved() {
        StarPress x = used();
        x.save();
        for (int times = 0; times < 5; times++) {
            x.addSheet();
            x.print(0, 1);
            Check.same("sheets", x.restore(), 3);
            Check.same("places without colour", x.placesOf(1, 0), 128);
            Check.same("sheets again", x.restore(), 3);
        }
    }

    private static void noUndoAfterRestore() {
        for (int changes = 0; changes <= 9; changes++) {
            StarPress x = new StarPress();
            x.save();
            for (int call = 0; call < changes; call++) {
                x.passHours(1);
            }
            x.restore();
            Check.same("changes", x.undoCount(), 0);
            Check.throwsState("undo", x::undo);
            Check.same("hour", x.hour(), 0);
            x.passHours(3);
            Check.same("changes", x.undoCount(), 1);
            Check.same("changes left", x.undo(), 0);
            Check.same("hour", x.hour(), 0);
        }
    }

    // An object is used for at most 512 calls

    private static void mostCalls() {
        StarPress x = new StarPress();
        for (int call = 1; call < 512; call++) {
            x.passHours(50);
        }
        Check.same("the hour as the last call", x.hour(), 511 * 50);
        StarPress y = Shops.withStars(1, 1);
        int prints = 0;
        for (int call = 4; call < 511; call++) {
            if (call % 90 == 40) {
                y.addInk(1, 99);
            } else {
                y.print(0, 0);
                prints++;
            }
        }
        Check.same("smears", y.smears(0), prints - 1);
        StarPress z = new StarPress();
        for (int pair = 0; pair < 252; pair++) {
            z.addSheet();
            z.undo();
        }
        for (int sheet = 0; sheet < 8; sheet++) {
            Check.same("sheet", z.addSheet(), sheet);
        }
    }
}

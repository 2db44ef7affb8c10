import java.util.NoSuchElementException;
import java.util.function.Consumer;

/** For each promise of the document, in its order: ordinary calls, the edges that it names, and wrong calls. */
public final class PromiseTest {
    private static final int[] NO_SUCH_INDEX = {-1, 2, 6, 8, Shops.MIN, Shops.MAX};
    private static final int[][] NO_PLACE = {{-1, 0}, {16, 0}, {0, -1}, {0, 8}, {Shops.MIN, 0}, {0, Shops.MAX}};
    private static final int[][] NO_SHIFT = {{-4, 0}, {4, 0}, {0, -4}, {0, 4}, {Shops.MIN, 0}, {0, Shops.MAX}};

    public static void main(String[] args) {
        plates();
        sheets();
        rackInkAndTime();
        refusalsStatisticsAndOutput();
        commandsUndoAndSavedState();
        Check.finish("PromiseTest");
    }

    private static void plates() {
        Check.part("promise 1", PromiseTest::newObject);
        Check.part("promise 2", PromiseTest::addPlate);
        Check.part("promise 3", PromiseTest::addStar);
        Check.part("promise 4", PromiseTest::removeStar);
        Check.part("promise 5", PromiseTest::setShift);
        Check.part("promise 6", PromiseTest::fit);
        Check.part("promise 7", PromiseTest::plateCount);
        Check.part("promise 8", PromiseTest::inkOf);
        Check.part("promise 9", PromiseTest::starCount);
        Check.part("promise 10", PromiseTest::hasStar);
        Check.part("promises 11 and 12", PromiseTest::shifts);
        Check.part("promise 13", PromiseTest::matches);
        Check.part("promises 14 and 15", PromiseTest::mostMatches);
        Check.part("promises 16 and 17", PromiseTest::bestShift);
    }

    private static void sheets() {
        Check.part("promise 18", PromiseTest::addSheet);
        Check.part("promise 19, what is printed", PromiseTest::print);
        Check.part("promise 19, smearing", PromiseTest::printWet);
        Check.part("promise 19, refusals", PromiseTest::printRefused);
        Check.part("promise 20", PromiseTest::wouldSmear);
        Check.part("promise 21", PromiseTest::sheetCount);
        Check.part("promise 22", PromiseTest::colour);
        Check.part("promise 23", PromiseTest::intended);
        Check.part("promise 24", PromiseTest::placesOf);
        Check.part("promise 25", PromiseTest::wetness);
        Check.part("promise 26", PromiseTest::smears);
        Check.part("promises 27 and 28", PromiseTest::misprints);
        Check.part("promise 29", PromiseTest::sheetByMisprints);
    }

    private static void rackInkAndTime() {
        Check.part("promise 30", PromiseTest::putInRack);
        Check.part("promise 31", PromiseTest::takeOut);
        Check.part("promise 32", PromiseTest::rackPlace);
        Check.part("promise 33", PromiseTest::sheetInRack);
        Check.part("promise 34", PromiseTest::addInk);
        Check.part("promise 35", PromiseTest::drops);
        Check.part("promise 36", PromiseTest::passHours);
        Check.part("promise 37", PromiseTest::hour);
        Check.part("promises 38 and 39", PromiseTest::hoursUntilDry);
    }

    private static void refusalsStatisticsAndOutput() {
        Check.part("promises 40 and 41", PromiseTest::refusals);
        Check.part("promise 42", PromiseTest::meanWetness);
        Check.part("promise 43", PromiseTest::smearedFraction);
        Check.part("promises 44 and 45", PromiseTest::output);
        Check.part("promise 46", PromiseTest::isConsistent);
    }

    private static void commandsUndoAndSavedState() {
        Check.part("promise 47", PromiseTest::feed);
        Check.part("promise 48, each command", PromiseTest::execute);
        Check.part("promise 48, all or none", PromiseTest::executeFailing);
        Check.part("promise 49", PromiseTest::errorPosition);
        Check.part("promise 50", PromiseTest::failedCommand);
        Check.part("promise 51, each change", PromiseTest::undoEachChange);
        Check.part("promise 51, the latest 8", PromiseTest::undo);
        Check.part("promise 52", PromiseTest::undoCount);
        Check.part("promise 53", PromiseTest::save);
        Check.part("promise 54", PromiseTest::restore);
    }

    // What the tests build on

    /** Two plates, CYAN with stars at (0, 0) and (3, 0), YELLOW with stars at (1, 1), (4, 1) and (9, 7); two sheets. */
    private static StarPress shop() {
        StarPress x = new StarPress();
        x.addPlate(StarPress.CYAN);
        x.addPlate(StarPress.YELLOW);
        x.addStar(0, 0, 0);
        x.addStar(0, 3, 0);
        x.addStar(1, 1, 1);
        x.addStar(1, 4, 1);
        x.addStar(1, 9, 7);
        x.addSheet();
        x.addSheet();
        return x;
    }

    private interface ByIndex {
        void call(StarPress x, int index);
    }

    private static void failsByIndex(String what, ByIndex asked) {
        for (int index : NO_SUCH_INDEX) {
            Check.throwsIndex(what + " of " + index, () -> asked.call(shop(), index));
        }
        Check.throwsIndex(what + " in an empty shop", () -> asked.call(new StarPress(), 0));
    }

    private interface ByPair {
        void call(StarPress x, int first, int second);
    }

    private static void failsByPair(String what, ByPair asked) {
        failsByIndex(what + ", first", (x, index) -> asked.call(x, index, 0));
        failsByIndex(what + ", second", (x, index) -> asked.call(x, 0, index));
    }

    private static void failsByPlace(String what, ByPair asked) {
        for (int[] place : NO_PLACE) {
            Check.throwsArgument(what + " at " + place[0] + ", " + place[1],
                    () -> asked.call(shop(), place[0], place[1]));
        }
    }

    // Plates

    private static void newObject() {
        StarPress x = new StarPress();
        Check.same("plates", x.plateCount(), 0);
        Check.same("sheets", x.sheetCount(), 0);
        Check.same("hour", x.hour(), 0);
        Check.same("changes", x.undoCount(), 0);
        for (int ink : new int[] {1, 2, 4}) {
            Check.same("drops of " + ink, x.drops(ink), 60);
        }
        for (int place = 0; place < 3; place++) {
            int free = place;
            Check.throwsElement("place " + place, () -> x.sheetInRack(free));
        }
        Check.same("CYAN", StarPress.CYAN, 1);
        Check.same("MAGENTA", StarPress.MAGENTA, 2);
        Check.same("YELLOW", StarPress.YELLOW, 4);
        Check.same("IN_RACK", StarPress.IN_RACK, 1);
        Check.same("NO_INK", StarPress.NO_INK, 2);
        Check.same("RACK_FULL", StarPress.RACK_FULL, 3);
    }

    private static void addPlate() {
        StarPress x = new StarPress();
        int[] inks = {4, 2, 1, 1, 2, 4};
        for (int plate = 0; plate < 6; plate++) {
            Check.same("index", x.addPlate(inks[plate]), plate);
        }
        for (int plate = 0; plate < 6; plate++) {
            Check.same("ink", x.inkOf(plate), inks[plate]);
            Check.same("stars", x.starCount(plate), 0);
            Check.same("dx", x.shiftX(plate), 0);
            Check.same("dy", x.shiftY(plate), 0);
        }
        Check.throwsState("a seventh plate", () -> x.addPlate(1));
        for (int ink : new int[] {-1, 0, 3, 5, 6, 7, 8, Shops.MIN, Shops.MAX}) {
            Check.throwsArgument("ink " + ink, () -> new StarPress().addPlate(ink));
            Check.throwsArgument("a seventh plate with ink " + ink, () -> x.addPlate(ink));
        }
        Check.same("plates", x.plateCount(), 6);
        newPlateAfterUndo();
    }

    /** What an undone plate had must not come back with the next one. */
    private static void newPlateAfterUndo() {
        StarPress x = new StarPress();
        x.addPlate(1);
        x.addStar(0, 5, 5);
        x.setShift(0, 2, -2);
        x.undo();
        x.undo();
        x.undo();
        x.addPlate(4);
        Check.same("stars", x.starCount(0), 0);
        Check.same("dx", x.shiftX(0), 0);
        Check.same("dy", x.shiftY(0), 0);
        Check.same("ink", x.inkOf(0), 4);
    }

    private static void addStar() {
        StarPress x = shop();
        Check.same("stars", x.addStar(0, 15, 7), 3);
        Check.same("stars", x.addStar(0, 15, 0), 4);
        Check.same("stars", x.addStar(0, 0, 7), 5);
        Check.isTrue("star at a corner", x.hasStar(0, 15, 7) && x.hasStar(0, 15, 0) && x.hasStar(0, 0, 7));
        Check.isTrue("no star on the other plate", !x.hasStar(1, 15, 7));
        Check.throwsState("a second star at a place", () -> x.addStar(0, 15, 7));
        Check.same("a star at the same place of another plate", x.addStar(1, 15, 7), 4);
        failsByIndex("addStar", (y, index) -> y.addStar(index, 0, 0));
        failsByIndex("addStar beside the plate", (y, index) -> y.addStar(index, 16, 8));
        failsByPlace("addStar", (y, column, row) -> y.addStar(0, column, row));
        StarPress full = new StarPress();
        full.addPlate(1);
        Shops.addStars(full, 0, 30, 19);
        Check.same("the last star", full.addStar(0, 0, 0), 20);
        Check.throwsState("star 21", () -> full.addStar(0, 9, 7));
        Check.throwsArgument("star 21 beside the plate", () -> full.addStar(0, 16, 7));
        Check.same("stars", full.starCount(0), 20);
    }

    private static void removeStar() {
        StarPress x = shop();
        Check.same("stars", x.removeStar(1, 4, 1), 2);
        Check.isTrue("no star", !x.hasStar(1, 4, 1));
        Check.isTrue("the other stars", x.hasStar(1, 1, 1) && x.hasStar(1, 9, 7));
        Check.throwsElement("a second removal", () -> x.removeStar(1, 4, 1));
        Check.throwsElement("a star of the other plate", () -> x.removeStar(0, 1, 1));
        Check.same("stars", x.removeStar(1, 9, 7), 1);
        Check.same("stars", x.removeStar(1, 1, 1), 0);
        failsByIndex("removeStar", (y, index) -> y.removeStar(index, 0, 0));
        failsByIndex("removeStar beside the plate", (y, index) -> y.removeStar(index, -1, 9));
        failsByPlace("removeStar", (y, column, row) -> y.removeStar(0, column, row));
    }

    private static void setShift() {
        StarPress x = new StarPress();
        x.addPlate(1);
        x.addPlate(2);
        Check.same("beside without stars", x.setShift(0, 3, 3), 0);
        int[][] stars = {{0, 0}, {15, 0}, {0, 7}, {15, 7}, {2, 2}, {13, 5}, {12, 4}, {3, 3}};
        for (int[] star : stars) {
            x.addStar(0, star[0], star[1]);
        }
        Check.same("beside without a shift", x.setShift(0, 0, 0), 0);
        Check.same("beside on the right", x.setShift(0, 1, 0), 2);
        Check.same("beside on the left", x.setShift(0, -1, 0), 2);
        Check.same("beside below", x.setShift(0, 0, 1), 2);
        Check.same("beside above", x.setShift(0, 0, -1), 2);
        Check.same("beside at a corner", x.setShift(0, 1, 1), 3);
        Check.same("beside far on the right and below", x.setShift(0, 3, 3), 4);
        Check.same("beside far on the left and above", x.setShift(0, -3, -3), 4);
        Check.same("dx", x.shiftX(0), -3);
        Check.same("dy", x.shiftY(0), -3);
        Check.same("dx of the other plate", x.shiftX(1), 0);
        Check.same("stars afterwards", x.starCount(0), 8);
        failsByIndex("setShift", (y, index) -> y.setShift(index, 1, 1));
        failsByIndex("setShift too far", (y, index) -> y.setShift(index, 4, -4));
        for (int[] shift : NO_SHIFT) {
            Check.throwsArgument("a shift too far", () -> x.setShift(0, shift[0], shift[1]));
        }
    }

    private static void fit() {
        StarPress x = shop();
        x.setShift(0, -3, 2);
        x.setShift(1, 2, 2);
        Check.same("matches", x.fit(0, 1), 2);
        Check.same("dx", x.shiftX(0), 1);
        Check.same("dy", x.shiftY(0), 1);
        Check.same("dx of the other", x.shiftX(1), 2);
        Check.same("matches of the same again", x.fit(0, 1), 2);
        Check.same("matches the other way", x.fit(1, 0), 2);
        Check.same("dx the other way", x.shiftX(1), -1);
        Check.same("dy the other way", x.shiftY(1), -1);
        x.undo();
        x.undo();
        Check.same("matches of the first fit are undone alone", x.shiftX(0), 1);
        x.undo();
        Check.same("dx undone", x.shiftX(0), -3);
        x.addPlate(2);
        x.addStar(2, 2, 3);
        Check.same("matches of one star", x.fit(0, 2), 1);
        Check.same("the smallest dx that has this sum", x.shiftX(0), -1);
        Check.same("dy", x.shiftY(0), 3);
        x.removeStar(2, 2, 3);
        Check.same("matches with no stars", x.fit(0, 2), 0);
        Check.same("dx with no stars", x.shiftX(0), 0);
        Check.same("dy with no stars", x.shiftY(0), 0);
        Check.throwsArgument("fit to itself", () -> x.fit(1, 1));
        Check.throwsIndex("fit of no plate to itself", () -> x.fit(3, 3));
        Check.throwsIndex("fit of no plate to itself", () -> x.fit(-1, -1));
        failsByPair("fit", (y, first, second) -> y.fit(first, second));
    }

    private static void plateCount() {
        StarPress x = new StarPress();
        for (int count = 1; count <= 6; count++) {
            x.addPlate(2);
            Check.same("plates", x.plateCount(), count);
        }
        x.undo();
        Check.same("plates after undo", x.plateCount(), 5);
    }

    private static void inkOf() {
        StarPress x = shop();
        Check.same("ink", x.inkOf(0), 1);
        Check.same("ink", x.inkOf(1), 4);
        failsByIndex("inkOf", (y, index) -> y.inkOf(index));
    }

    private static void starCount() {
        StarPress x = shop();
        Check.same("stars", x.starCount(0), 2);
        Check.same("stars", x.starCount(1), 3);
        failsByIndex("starCount", (y, index) -> y.starCount(index));
    }

    private static void hasStar() {
        StarPress x = shop();
        for (int place = 0; place < 128; place++) {
            int column = place % 16;
            int row = place / 16;
            boolean first = row == 0 && (column == 0 || column == 3);
            boolean second = row == 1 && (column == 1 || column == 4) || row == 7 && column == 9;
            Check.same("star of 0 at " + place, x.hasStar(0, column, row), first);
            Check.same("star of 1 at " + place, x.hasStar(1, column, row), second);
        }
        failsByIndex("hasStar", (y, index) -> y.hasStar(index, 0, 0));
        failsByIndex("hasStar beside the plate", (y, index) -> y.hasStar(index, 16, 8));
        failsByPlace("hasStar", (y, column, row) -> y.hasStar(0, column, row));
    }

    private static void shifts() {
        StarPress x = shop();
        for (int dx = -3; dx <= 3; dx++) {
            for (int dy = -3; dy <= 3; dy++) {
                x.setShift(1, dx, dy);
                Check.same("dx", x.shiftX(1), dx);
                Check.same("dy", x.shiftY(1), dy);
                Check.same("dx of the other", x.shiftX(0), 0);
                Check.same("dy of the other", x.shiftY(0), 0);
            }
        }
        failsByIndex("shiftX", (y, index) -> y.shiftX(index));
        failsByIndex("shiftY", (y, index) -> y.shiftY(index));
    }

    private static void matches() {
        StarPress x = shop();
        Check.same("matches", x.matches(0, 1, 1, 1), 2);
        Check.same("matches the other way", x.matches(1, 0, -1, -1), 2);
        Check.same("matches the wrong way", x.matches(1, 0, 1, 1), 0);
        Check.same("matches of one star", x.matches(0, 1, -2, 1), 1);
        Check.same("matches with itself", x.matches(1, 1, 0, 0), 3);
        Check.same("matches with itself moved", x.matches(1, 1, 3, 0), 1);
        x.setShift(0, 3, 3);
        x.setShift(1, -2, 0);
        Check.same("matches do not regard the shifts", x.matches(0, 1, 1, 1), 2);
        StarPress edges = new StarPress();
        edges.addPlate(1);
        edges.addPlate(1);
        edges.addStar(0, 15, 3);
        edges.addStar(0, 15, 7);
        Shops.addStars(edges, 1, 64, 4);
        edges.addStar(1, 0, 0);
        Check.same("no place goes on in the next row", edges.matches(0, 1, 1, 0), 0);
        Check.same("no place goes on in the first row", edges.matches(0, 1, 1, 1), 0);
        Check.same("no place comes from the next row", edges.matches(1, 0, -1, 0), 0);
        failsByPair("matches", (y, first, second) -> y.matches(first, second, 0, 0));
        failsByPair("matches too far", (y, first, second) -> y.matches(first, second, 4, 4));
        for (int[] shift : NO_SHIFT) {
            Check.throwsArgument("a shift too far", () -> x.matches(0, 1, shift[0], shift[1]));
            Check.throwsArgument("a shift of a plate to itself too far", () -> x.matches(0, 0, shift[0], shift[1]));
        }
    }

    private static void mostMatches() {
        StarPress x = shop();
        x.addPlate(2);
        int[][] most = {{2, 2, 0}, {2, 3, 0}, {0, 0, 0}};
        for (int first = 0; first < 3; first++) {
            for (int second = 0; second < 3; second++) {
                Check.same("most of " + first + ", " + second, x.mostMatches(first, second), most[first][second]);
                Check.same("by pairs", x.mostMatchesByPairs(first, second), most[first][second]);
            }
        }
        StarPress far = new StarPress();
        far.addPlate(1);
        far.addPlate(1);
        far.addStar(0, 4, 4);
        far.addStar(1, 8, 4);
        far.addStar(1, 4, 0);
        Check.same("most beyond the shifts", far.mostMatches(0, 1), 0);
        Check.same("most beyond the shifts, by pairs", far.mostMatchesByPairs(0, 1), 0);
        far.addStar(1, 7, 1);
        Check.same("most at the last shift", far.mostMatches(0, 1), 1);
        Check.same("most at the last shift, by pairs", far.mostMatchesByPairs(0, 1), 1);
        manyStars();
        failsByPair("mostMatches", (y, first, second) -> y.mostMatches(first, second));
        failsByPair("mostMatchesByPairs", (y, first, second) -> y.mostMatchesByPairs(first, second));
    }

    /** Plates full of stars, that match each other at many shifts. */
    private static void manyStars() {
        StarPress x = new StarPress();
        x.addPlate(1);
        x.addPlate(2);
        x.addPlate(4);
        for (int star = 0; star < 20; star++) {
            x.addStar(0, star % 5, star / 5);
            x.addStar(1, star % 5 + 2, star / 5 + 3);
            x.addStar(2, 15 - star % 10, 7 - star / 10);
        }
        int[][] most = {{20, 20, 2}, {20, 20, 8}, {2, 8, 20}};
        for (int first = 0; first < 3; first++) {
            for (int second = 0; second < 3; second++) {
                Check.same("most of " + first + ", " + second, x.mostMatches(first, second), most[first][second]);
                Check.same("by pairs", x.mostMatchesByPairs(first, second), most[first][second]);
            }
        }
        Check.same("dx", x.bestShiftX(0, 1), 2);
        Check.same("dy", x.bestShiftY(0, 1), 3);
    }

    /** Expects the best shift of a star at (7, 3) and of others that lie so many columns and rows from it. */
    private static void best(int dx, int dy, int... others) {
        StarPress x = new StarPress();
        x.addPlate(1);
        x.addPlate(2);
        x.addStar(0, 7, 3);
        for (int i = 0; i < others.length; i += 2) {
            x.addStar(1, 7 + others[i], 3 + others[i + 1]);
        }
        Check.same("best dx", x.bestShiftX(0, 1), dx);
        Check.same("best dy", x.bestShiftY(0, 1), dy);
        Check.same("most by pairs", x.mostMatchesByPairs(0, 1), x.mostMatches(0, 1));
    }

    private static void bestShift() {
        best(0, 0);
        best(3, 3, 3, 3);
        best(-3, -3, -3, -3);
        best(0, 0, 4, 0, -4, 0, 0, 4);
        best(0, 0, 0, 0, 1, 0, 0, 1);
        best(1, 0, 1, 0, -1, -1);
        best(0, -2, 0, -2, -3, 0, 3, 0);
        best(-1, 0, 1, 0, -1, 0, 0, 1, 0, -1);
        best(0, -1, 1, 0, 0, 1, 0, -1);
        best(-2, 1, -2, 1, 1, -2, -1, 3, 2, -1);
        best(-1, -1, 1, 1, 1, -1, -1, 1, -1, -1);
        StarPress x = shop();
        Check.same("the most matches come before the nearest shift", x.bestShiftX(0, 1), 1);
        Check.same("the most matches come before the nearest shift", x.bestShiftY(0, 1), 1);
        Check.same("dx to itself", x.bestShiftX(1, 1), 0);
        Check.same("dy to itself", x.bestShiftY(1, 1), 0);
        Check.same("dx is only asked for", x.shiftX(0), 0);
        failsByPair("bestShiftX", (y, first, second) -> y.bestShiftX(first, second));
        failsByPair("bestShiftY", (y, first, second) -> y.bestShiftY(first, second));
    }

    // Sheets

    private static void addSheet() {
        StarPress x = new StarPress();
        for (int sheet = 0; sheet < 8; sheet++) {
            Check.same("index", x.addSheet(), sheet);
            Check.same("places without colour", x.placesOf(sheet, 0), 128);
            Check.same("wetness", x.wetness(sheet), 0);
            Check.same("smears", x.smears(sheet), 0);
            Check.same("misprints", x.misprints(sheet), 0);
        }
        Check.throwsState("a ninth sheet", x::addSheet);
        Check.same("sheets", x.sheetCount(), 8);
        newSheetAfterUndo();
    }

    /** What an undone sheet had must not come back with the next one. */
    private static void newSheetAfterUndo() {
        StarPress x = new StarPress();
        x.addPlate(1);
        x.addStar(0, 5, 5);
        x.addSheet();
        x.print(0, 0);
        x.print(0, 0);
        x.putInRack(0);
        for (int i = 0; i < 4; i++) {
            x.undo();
        }
        Check.throwsElement("the place of no sheet", () -> x.sheetInRack(0));
        x.addSheet();
        Check.same("places without colour", x.placesOf(0, 0), 128);
        Check.same("intended", x.intended(0, 5, 5), 0);
        Check.same("wetness", x.wetness(0), 0);
        Check.same("smears", x.smears(0), 0);
        Check.throwsElement("rackPlace", () -> x.rackPlace(0));
    }

    private static void print() {
        StarPress x = shop();
        Check.same("beside", x.print(1, 0), 0);
        Check.same("drops", x.drops(4), 57);
        Check.same("drops of another ink", x.drops(1), 60);
        Check.same("wetness", x.wetness(0), 1);
        Check.same("colour", x.colour(0, 9, 7), 4);
        Check.same("places", x.placesOf(0, 4), 3);
        Check.same("smears of a dry sheet", x.smears(0), 0);
        x.setShift(1, -2, 1);
        Check.same("beside on the left and below", x.print(1, 1), 2);
        Check.same("drops for stars beside the sheet, too", x.drops(4), 54);
        Check.same("colour of the moved place", x.colour(1, 2, 2), 4);
        Check.same("places", x.placesOf(1, 4), 1);
        Check.same("intended", x.intended(1, 1, 1), 4);
        Check.same("intended of a star beside the sheet", x.intended(1, 9, 7), 4);
        Check.same("intended of the moved place", x.intended(1, 2, 2), 0);
        Check.same("the other sheet", x.placesOf(0, 4), 3);
        Check.same("stars of the plate", x.starCount(1), 3);
        x.passHours(3);
        x.addPlate(2);
        x.addStar(2, 2, 2);
        x.print(2, 1);
        Check.same("inks mix", x.colour(1, 2, 2), 6);
        Check.same("intended inks do not mix elsewhere", x.intended(1, 2, 2), 2);
        x.passHours(3);
        x.print(2, 1);
        Check.same("the same ink again", x.colour(1, 2, 2), 6);
        x.addStar(0, 2, 2);
        x.passHours(3);
        x.print(0, 1);
        Check.same("three inks", x.colour(1, 2, 2), 7);
        Check.same("two intended inks", x.intended(1, 2, 2), 3);
        sameInkOfTwoPlates();
        failsByPair("print", (y, plate, sheet) -> y.print(plate, sheet));
    }

    private static void sameInkOfTwoPlates() {
        StarPress x = new StarPress();
        x.addSheet();
        for (int plate = 0; plate < 2; plate++) {
            x.addPlate(2);
            x.addStar(plate, 4 + plate, 5);
            x.print(plate, 0);
            x.passHours(2);
        }
        Check.same("row", Shops.row(x, 0, 5), "....22..........");
        Check.same("intended", x.intended(0, 4, 5), 2);
        Check.same("intended", x.intended(0, 5, 5), 2);
    }

    private static void printWet() {
        StarPress x = new StarPress();
        x.addPlate(1);
        x.addStar(0, 0, 0);
        x.addStar(0, 14, 3);
        x.addStar(0, 15, 6);
        x.addPlate(4);
        x.addStar(1, 1, 0);
        x.addStar(1, 2, 6);
        x.addPlate(2);
        x.addSheet();
        x.print(0, 0);
        x.print(1, 0);
        Check.same("smeared and printed", Shops.row(x, 0, 0), "15..............");
        Check.same("smeared into the last column", Shops.row(x, 0, 3), "..............11");
        Check.same("not smeared into the next row", Shops.row(x, 0, 4), "................");
        Check.same("the last column smears nowhere", Shops.row(x, 0, 7), "................");
        Check.same("no smear of what is printed then", Shops.row(x, 0, 6), "..4............1");
        Check.same("smears", x.smears(0), 1);
        Check.same("intended places do not smear", x.intended(0, 1, 0), 4);
        x.print(2, 0);
        Check.same("smeared by one place each time, by all inks", Shops.row(x, 0, 0), "155.............");
        Check.same("smears", x.smears(0), 2);
        Check.same("wetness by a plate without stars", x.wetness(0), 0);
        x.print(2, 0);
        Check.same("a dry sheet does not smear", Shops.row(x, 0, 0), "155.............");
        Check.same("smears", x.smears(0), 2);
        Check.same("drops", x.drops(2), 60);
    }

    private static void printRefused() {
        StarPress x = Shops.printed(20);
        x.passHours(10);
        x.print(0, 0);
        x.passHours(10);
        Check.same("the last drops suffice", x.print(0, 0), 0);
        Check.same("drops", x.drops(1), 0);
        x.passHours(10);
        Shops.refused(x, () -> x.print(0, 0), StarPress.NO_INK, 20);
        x.addInk(1, 13);
        Shops.refused(x, () -> x.print(0, 0), StarPress.NO_INK, 7);
        x.addSheet();
        x.addSheet();
        x.putInRack(1);
        x.putInRack(2);
        x.putInRack(0);
        Shops.refused(x, () -> x.print(0, 0), StarPress.IN_RACK, 2);
        x.takeOut(1);
        Shops.refused(x, () -> x.print(0, 2), StarPress.IN_RACK, 1);
        Check.throwsIndex("a plate that is not there on a sheet in the rack", () -> x.print(1, 2));
        x.addPlate(2);
        Shops.refused(x, () -> x.print(1, 0), StarPress.IN_RACK, 2);
        x.takeOut(0);
        Check.same("no stars need no drops", x.print(1, 0), 0);
        Check.same("drops", x.drops(1), 13);
        x.addInk(1, 6);
        Shops.refused(x, () -> x.print(0, 0), StarPress.NO_INK, 1);
        x.addInk(1, 1);
        Check.same("beside", x.print(0, 0), 0);
        Check.same("drops", x.drops(1), 0);
    }

    private static void wouldSmear() {
        StarPress x = shop();
        Check.isTrue("a dry sheet", !x.wouldSmear(0));
        x.print(0, 0);
        Check.isTrue("a wet sheet", x.wouldSmear(0));
        Check.isTrue("another sheet", !x.wouldSmear(1));
        x.putInRack(0);
        Check.isTrue("a wet sheet in the rack", x.wouldSmear(0));
        x.passHours(1);
        Check.isTrue("a sheet that has dried", !x.wouldSmear(0));
        failsByIndex("wouldSmear", (y, index) -> y.wouldSmear(index));
    }

    private static void sheetCount() {
        StarPress x = new StarPress();
        for (int count = 1; count <= 8; count++) {
            x.addSheet();
            Check.same("sheets", x.sheetCount(), count);
        }
        x.undo();
        Check.same("sheets after undo", x.sheetCount(), 7);
    }

    private static void colour() {
        StarPress x = shop();
        x.addStar(0, 15, 7);
        x.print(0, 0);
        for (int place = 0; place < 128; place++) {
            boolean star = x.hasStar(0, place % 16, place / 16);
            Check.same("colour at " + place, x.colour(0, place % 16, place / 16), star ? 1 : 0);
        }
        failsByIndex("colour", (y, index) -> y.colour(index, 0, 0));
        failsByIndex("colour beside the sheet", (y, index) -> y.colour(index, 16, 8));
        failsByPlace("colour", (y, column, row) -> y.colour(0, column, row));
    }

    private static void intended() {
        StarPress x = shop();
        x.addStar(1, 15, 7);
        x.setShift(1, 2, 0);
        x.print(1, 1);
        for (int place = 0; place < 128; place++) {
            boolean star = x.hasStar(1, place % 16, place / 16);
            Check.same("intended at " + place, x.intended(1, place % 16, place / 16), star ? 4 : 0);
        }
        failsByIndex("intended", (y, index) -> y.intended(index, 0, 0));
        failsByIndex("intended beside the sheet", (y, index) -> y.intended(index, 16, 8));
        failsByPlace("intended", (y, column, row) -> y.intended(0, column, row));
    }

    private static void placesOf() {
        StarPress x = new StarPress();
        x.addSheet();
        for (int plate = 0; plate < 3; plate++) {
            x.addPlate(1 << plate);
            // Bit by bit the places 0 to 19 get all colours.
            for (int place = 0; place < 20; place++) {
                if ((place % 8 >> plate & 1) != 0 || place == 16 && plate == 0) {
                    x.addStar(plate, place % 16, place / 16);
                }
            }
            x.print(plate, 0);
            x.passHours(20);
        }
        int[] due = {108 + 2, 4, 3, 3, 2, 2, 2, 2};
        int sum = 0;
        for (int colour = 0; colour < 8; colour++) {
            int found = x.placesOf(0, colour);
            Check.same("places of colour " + colour, found, due[colour]);
            sum += found;
        }
        Check.same("places of all colours", sum, 128);
        for (int colour : new int[] {-1, 8, Shops.MIN, Shops.MAX}) {
            Check.throwsArgument("colour " + colour, () -> x.placesOf(0, colour));
            failsByIndex("placesOf", (y, index) -> y.placesOf(index, colour));
        }
        failsByIndex("placesOf", (y, index) -> y.placesOf(index, 0));
    }

    private static void wetness() {
        for (int stars = 0; stars <= 20; stars++) {
            Check.same("wetness of " + stars, Shops.printed(stars).wetness(0), (stars + 3) / 4);
        }
        StarPress x = Shops.printed(20);
        x.addPlate(4);
        x.addStar(1, 0, 0);
        x.print(1, 0);
        Check.same("wetness by the last plate alone", x.wetness(0), 1);
        StarPress beside = new StarPress();
        beside.addPlate(1);
        Shops.addStars(beside, 0, 0, 5);
        beside.setShift(0, 0, -1);
        beside.addSheet();
        beside.print(0, 0);
        Check.same("wetness by stars beside the sheet", beside.wetness(0), 2);
        failsByIndex("wetness", (y, index) -> y.wetness(index));
    }

    private static void smears() {
        StarPress x = Shops.printed(1);
        Check.same("smears", x.smears(0), 0);
        for (int times = 1; times <= 5; times++) {
            x.print(0, 0);
            Check.same("smears", x.smears(0), times);
        }
        x.passHours(1);
        x.print(0, 0);
        Check.same("smears, printed dry", x.smears(0), 5);
        failsByIndex("smears", (y, index) -> y.smears(index));
    }

    private static void misprints() {
        StarPress x = shop();
        x.print(0, 0);
        Check.same("misprints", x.misprints(0), 0);
        Check.same("by sets", x.misprintsBySets(0), 0);
        x.print(1, 0);
        Check.same("misprints by smearing", x.misprints(0), 2);
        Check.same("by sets", x.misprintsBySets(0), 2);
        x.setShift(1, 3, 1);
        x.print(1, 1);
        Check.same("misprints by a shift", x.misprints(1), 5);
        Check.same("by sets", x.misprintsBySets(1), 5);
        x.passHours(2);
        x.setShift(0, 1, 1);
        x.print(0, 1);
        Check.same("a place with two wrong inks counts once", x.misprints(1), 7);
        Check.same("by sets", x.misprintsBySets(1), 7);
        failsByIndex("misprints", (y, index) -> y.misprints(index));
        failsByIndex("misprintsBySets", (y, index) -> y.misprintsBySets(index));
    }

    private static void sheetByMisprints() {
        StarPress x = Shops.withSheets(5);
        for (int rank = 0; rank < 5; rank++) {
            Check.same("rank " + rank, x.sheetByMisprints(rank), rank);
        }
        x.addPlate(1);
        x.addStar(0, 4, 4);
        x.addPlate(2);
        x.addStar(1, 4, 4);
        x.setShift(1, 1, 0);
        x.print(1, 0);
        x.print(0, 1);
        x.setShift(0, 0, 3);
        x.print(0, 2);
        x.print(1, 3);
        x.print(0, 3);
        int[] misprints = {2, 0, 2, 4, 0};
        int[] order = {1, 4, 0, 2, 3};
        for (int sheet = 0; sheet < 5; sheet++) {
            int rank = sheet;
            Check.same("misprints of " + sheet, x.misprints(sheet), misprints[sheet]);
            Check.same("rank " + rank, x.sheetByMisprints(rank), order[rank]);
        }
        for (int rank : new int[] {-1, 5, 8, Shops.MIN, Shops.MAX}) {
            Check.throwsElement("rank " + rank, () -> x.sheetByMisprints(rank));
        }
        Check.throwsElement("rank 0 of no sheets", () -> new StarPress().sheetByMisprints(0));
    }

    // Rack, ink and time

    private static void putInRack() {
        StarPress x = Shops.withSheets(5);
        Check.same("place", x.putInRack(3), 0);
        Check.same("place", x.putInRack(1), 1);
        Check.same("place", x.putInRack(4), 2);
        Shops.refused(x, () -> x.putInRack(0), StarPress.RACK_FULL, 3);
        Check.throwsState("a sheet that is in the full rack", () -> x.putInRack(1));
        x.takeOut(3);
        x.takeOut(1);
        Check.throwsState("a sheet that is in the rack", () -> x.putInRack(4));
        Check.same("the smallest free place", x.putInRack(2), 0);
        Check.same("the next free place", x.putInRack(3), 1);
        failsByIndex("putInRack", (y, index) -> y.putInRack(index));
        Check.throwsIndex("no sheet into the full rack", () -> x.putInRack(5));
    }

    private static void takeOut() {
        StarPress x = Shops.withSheets(4);
        x.putInRack(2);
        x.putInRack(0);
        x.putInRack(3);
        Check.same("place", x.takeOut(0), 1);
        Check.same("place", x.takeOut(3), 2);
        Check.same("place", x.takeOut(2), 0);
        for (int sheet = 0; sheet < 4; sheet++) {
            int outside = sheet;
            Check.throwsState("a sheet outside", () -> x.takeOut(outside));
        }
        failsByIndex("takeOut", (y, index) -> y.takeOut(index));
    }

    private static void rackPlace() {
        StarPress x = Shops.withSheets(4);
        x.putInRack(2);
        x.putInRack(0);
        x.putInRack(3);
        Check.same("place", x.rackPlace(2), 0);
        Check.same("place", x.rackPlace(0), 1);
        Check.same("place", x.rackPlace(3), 2);
        Check.throwsElement("a sheet outside", () -> x.rackPlace(1));
        x.takeOut(2);
        Check.throwsElement("a sheet that was taken out", () -> x.rackPlace(2));
        Check.same("the others stay", x.rackPlace(3), 2);
        failsByIndex("rackPlace", (y, index) -> y.rackPlace(index));
    }

    private static void sheetInRack() {
        StarPress x = Shops.withSheets(4);
        x.putInRack(2);
        x.putInRack(0);
        x.putInRack(3);
        x.takeOut(0);
        Check.same("sheet", x.sheetInRack(0), 2);
        Check.throwsElement("a free place", () -> x.sheetInRack(1));
        Check.same("sheet", x.sheetInRack(2), 3);
        for (int place : new int[] {-1, 3, Shops.MIN, Shops.MAX}) {
            Check.throwsIndex("place " + place, () -> x.sheetInRack(place));
        }
    }

    private static void addInk() {
        StarPress x = new StarPress();
        Check.same("drops", x.addInk(1, 1), 61);
        Check.same("drops", x.addInk(2, 99), 159);
        Check.same("drops", x.addInk(4, 50), 110);
        Check.same("drops afterwards", x.drops(1), 61);
        for (int times = 0; times < 3; times++) {
            x.addInk(2, 99);
        }
        Check.throwsState("501 drops", () -> x.addInk(2, 45));
        Check.same("500 drops", x.addInk(2, 44), 500);
        Check.throwsState("501 drops", () -> x.addInk(2, 1));
        for (int drops : new int[] {0, -1, 100, Shops.MIN, Shops.MAX}) {
            Check.throwsArgument("drops " + drops, () -> x.addInk(1, drops));
            Check.throwsArgument("too many drops " + drops, () -> x.addInk(2, drops));
        }
        for (int ink : new int[] {-1, 0, 3, 5, 6, 7, 8, Shops.MIN, Shops.MAX}) {
            Check.throwsArgument("ink " + ink, () -> x.addInk(ink, 1));
        }
    }

    private static void drops() {
        StarPress x = shop();
        x.addInk(2, 5);
        x.print(0, 0);
        x.print(1, 1);
        Check.same("drops", x.drops(1), 58);
        Check.same("drops", x.drops(2), 65);
        Check.same("drops", x.drops(4), 57);
        for (int ink : new int[] {-1, 0, 3, 5, 6, 7, 8, Shops.MIN, Shops.MAX}) {
            Check.throwsArgument("ink " + ink, () -> x.drops(ink));
        }
    }

    private static void passHours() {
        StarPress x = new StarPress();
        x.addPlate(1);
        Shops.addStars(x, 0, 0, 13);
        x.addPlate(2);
        Shops.addStars(x, 1, 0, 7);
        for (int sheet = 0; sheet < 4; sheet++) {
            x.addSheet();
        }
        x.putInRack(3);
        x.print(0, 0);
        x.print(0, 1);
        x.print(1, 2);
        x.putInRack(1);
        expectWetness(x, 4, 4, 2, 0);
        Check.same("dried", x.passHours(1), 0);
        expectWetness(x, 3, 2, 1, 0);
        Check.same("dried", x.passHours(1), 1);
        expectWetness(x, 3, 0, 1, 0);
        Check.same("dried", x.passHours(2), 1);
        expectWetness(x, 2, 0, 0, 0);
        Check.same("dried", x.passHours(50), 1);
        expectWetness(x, 0, 0, 0, 0);
        Check.same("dried", x.passHours(50), 0);
        for (int hours : new int[] {0, -1, 51, Shops.MIN, Shops.MAX}) {
            Check.throwsArgument("hours " + hours, () -> x.passHours(hours));
        }
        StarPress odd = Shops.printed(1);
        odd.putInRack(0);
        Check.same("a wetness of 1 in the rack", odd.passHours(1), 1);
        Check.same("wetness", odd.wetness(0), 0);
        odd.takeOut(0);
        odd.print(0, 0);
        Check.same("an odd hour outside", odd.passHours(1), 0);
        Check.same("an even hour outside", odd.passHours(1), 1);
    }

    private static void expectWetness(StarPress x, int... due) {
        for (int sheet = 0; sheet < due.length; sheet++) {
            Check.same("wetness of " + sheet, x.wetness(sheet), due[sheet]);
        }
    }

    private static void hour() {
        StarPress x = new StarPress();
        x.passHours(1);
        Check.same("hour", x.hour(), 1);
        x.passHours(50);
        Check.same("hour", x.hour(), 51);
        Shops.executed(x, "hour 9;hour 10");
        Check.same("hour", x.hour(), 70);
    }

    private static void hoursUntilDry() {
        for (int stars = 0; stars <= 20; stars++) {
            int wet = (stars + 3) / 4;
            StarPress x = Shops.printed(stars);
            untilDry(x, wet == 0 ? 0 : 2 * wet - 1);
            x.putInRack(0);
            untilDry(x, (wet + 1) / 2);
            StarPress odd = Shops.printed(0);
            Shops.addStars(odd, 0, 0, stars);
            odd.passHours(1);
            odd.print(0, 0);
            untilDry(odd, 2 * wet);
            odd.putInRack(0);
            untilDry(odd, (wet + 1) / 2);
        }
        failsByIndex("hoursUntilDry", (y, index) -> y.hoursUntilDry(index));
        failsByIndex("hoursUntilDryAtOnce", (y, index) -> y.hoursUntilDryAtOnce(index));
    }

    private static void untilDry(StarPress x, int due) {
        int hour = x.hour();
        Check.same("hours until dry", x.hoursUntilDry(0), due);
        Check.same("at once", x.hoursUntilDryAtOnce(0), due);
        Check.same("hour", x.hour(), hour);
        if (due > 0) {
            Check.same("dried", x.passHours(due), 1);
            x.undo();
        }
        if (due > 1) {
            Check.same("dried too early", x.passHours(due - 1), 0);
            x.undo();
        }
    }

    // Refusals, statistics and output

    private static void refusals() {
        StarPress x = Shops.withSheets(4);
        Check.throwsElement("no reason", x::refusalReason);
        Check.throwsElement("no detail", x::refusalDetail);
        Check.throwsIndex("no sheet", () -> x.putInRack(4));
        x.putInRack(0);
        Check.throwsState("a sheet that is in the rack", () -> x.putInRack(0));
        Check.throwsElement("still no reason", x::refusalReason);
        Check.throwsElement("still no detail", x::refusalDetail);
        x.putInRack(1);
        x.putInRack(2);
        x.save();
        Shops.refused(x, () -> x.putInRack(3), StarPress.RACK_FULL, 3);
        x.takeOut(0);
        x.undo();
        x.restore();
        Check.same("the reason stays", x.refusalReason(), StarPress.RACK_FULL);
        Check.same("the detail stays", x.refusalDetail(), 3);
        x.addPlate(1);
        Shops.refused(x, () -> x.print(0, 2), StarPress.IN_RACK, 2);
        Check.same("a success", x.print(0, 3), 0);
        Check.same("the reason stays", x.refusalReason(), StarPress.IN_RACK);
        Check.same("the detail stays", x.refusalDetail(), 2);
        Shops.feedAll(x, "hour 1;rack 3");
        Check.throwsUnsupported("a refused command", x::execute);
        Check.same("the reason of a command", x.refusalReason(), StarPress.RACK_FULL);
        Check.same("the detail of a command", x.refusalDetail(), 3);
    }

    private static void meanWetness() {
        Check.throwsArithmetic("no sheets", () -> new StarPress().meanWetness());
        StarPress x = Shops.printed(20);
        Check.same("mean", x.meanWetness(), 5.0);
        x.addSheet();
        Check.same("mean", x.meanWetness(), 2.5);
        x.addSheet();
        Check.same("mean", x.meanWetness(), 5.0 / 3.0);
        x.putInRack(0);
        Check.same("a sheet in the rack counts", x.meanWetness(), 5.0 / 3.0);
        x.passHours(50);
        Check.same("mean", x.meanWetness(), 0.0);
    }

    private static void smearedFraction() {
        Check.throwsArithmetic("no sheets", () -> new StarPress().smearedFraction());
        StarPress x = Shops.printed(1);
        Check.same("fraction", x.smearedFraction(), 0.0f);
        x.print(0, 0);
        x.print(0, 0);
        Check.same("fraction", x.smearedFraction(), 1.0f);
        x.addSheet();
        x.addSheet();
        Check.same("fraction", x.smearedFraction(), 1.0f / 3.0f);
        x.print(0, 1);
        x.print(0, 1);
        Check.same("fraction", x.smearedFraction(), 2.0f / 3.0f);
    }

    private static void output() {
        StarPress x = shop();
        Check.throwsIndex("a character of no output", () -> x.outputCharacter(0));
        x.print(0, 0);
        x.print(1, 0);
        Check.same("length", x.writeRow(0, 1), 16);
        Check.same("row", Shops.row(x, 0, 1), ".4..4...........");
        Check.same("row", Shops.row(x, 0, 0), "11.11...........");
        Check.same("row", Shops.row(x, 0, 7), ".........4......");
        Check.same("another sheet", Shops.row(x, 1, 0), "................");
        Check.same("the last row is the output", x.outputCharacter(0), '.');
        for (int index : new int[] {-1, 16, Shops.MIN, Shops.MAX}) {
            Check.throwsIndex("character " + index, () -> x.outputCharacter(index));
        }
        x.writeRow(0, 0);
        x.undo();
        x.undo();
        Check.same("undo leaves the output", x.outputCharacter(0), '1');
        Check.throwsArgument("a row that is not there", () -> x.writeRow(0, 8));
        Check.same("the output stays", x.outputCharacter(0), '1');
        for (int y : new int[] {-1, 8, Shops.MIN, Shops.MAX}) {
            Check.throwsArgument("row " + y, () -> x.writeRow(0, y));
            failsByIndex("writeRow " + y, (z, index) -> z.writeRow(index, y));
        }
        failsByIndex("writeRow", (z, index) -> z.writeRow(index, 0));
        allColours();
    }

    private static void allColours() {
        StarPress x = new StarPress();
        x.addSheet();
        for (int plate = 0; plate < 3; plate++) {
            x.addPlate(1 << plate);
            for (int column = 0; column < 16; column++) {
                if ((column >> plate & 1) != 0) {
                    x.addStar(plate, column, 5);
                }
            }
            x.print(plate, 0);
            x.passHours(10);
        }
        Check.same("all colours", Shops.row(x, 0, 5), ".1234567.1234567");
    }

    private static void isConsistent() {
        Check.isTrue("an empty shop", new StarPress().isConsistent());
        StarPress x = shop();
        Check.isTrue("a shop", x.isConsistent());
        x.print(0, 0);
        x.print(1, 0);
        x.putInRack(0);
        x.print(1, 1);
        x.passHours(1);
        Check.isTrue("a used shop", x.isConsistent());
        Check.same("changes", x.undoCount(), 8);
        fullShop();
    }

    /** As many plates, stars, sheets and drops as there can be, and what asks for all of them. */
    private static void fullShop() {
        StarPress x = Shops.withSheets(8);
        for (int plate = 0; plate < 6; plate++) {
            x.addPlate(plate % 2 == 0 ? 4 : 1);
            Shops.addStars(x, plate, 128 - 20, 20);
            x.addInk(plate % 2 == 0 ? 4 : 1, 99);
        }
        for (int plate = 0; plate < 6; plate++) {
            x.print(plate, plate);
            x.print(5 - plate, plate);
        }
        Check.isTrue("a full shop", x.isConsistent());
        Check.same("mean", x.meanWetness(), 30.0 / 8.0);
        Check.same("fraction", x.smearedFraction(), 6.0f / 8.0f);
        Check.same("the first rank", x.sheetByMisprints(0), 0);
        Check.same("the last rank", x.sheetByMisprints(7), 7);
        Check.same("dried", x.passHours(9), 6);
        Check.same("matches", x.mostMatchesByPairs(0, 5), 20);
        Check.same("row", Shops.row(x, 0, 7), "5555555555555555");
    }

    // Commands, undo and saved state

    private static void feed() {
        StarPress x = new StarPress();
        for (int length = 1; length <= 60; length++) {
            Check.same("length", x.feed((char) (length * 1000)), length);
        }
        Check.throwsState("character 61", () -> x.feed('a'));
        Check.throwsArgument("a long text", x::execute);
        Check.same("length after execute", x.feed('s'), 1);
        x.addSheet();
        x.save();
        x.undo();
        x.restore();
        Check.same("undo and restore leave the buffer", x.feed('h'), 2);
        Check.same("feeding is no change", x.undoCount(), 0);
        Shops.feedAll(x, "eet");
        Check.same("commands", x.execute(), 1);
        String longest = "sheet;sheet;sheet;sheet;sheet;sheet;sheet;sheet;rack 0;out 0";
        Check.same("a text of 60 characters", longest.length(), 60);
        Check.same("its commands", Shops.executed(new StarPress(), longest), 10);
        String endsInNumber = "sheet;sheet;sheet;sheet;sheet;sheet;plate c;print 0>0;hour 1";
        Check.same("a text of 60 characters", endsInNumber.length(), 60);
        Check.same("its commands", Shops.executed(new StarPress(), endsInNumber), 9);
    }

    private static void execute() {
        StarPress x = new StarPress();
        Check.same("commands", Shops.executed(x, "plate c;plate m;plate y"), 3);
        Check.same("inks", "" + x.inkOf(0) + x.inkOf(1) + x.inkOf(2), "124");
        Check.same("commands", Shops.executed(x, "star 0 5,2;star 0 05,3;star 1 15,7;star 2 0,0"), 4);
        Check.isTrue("stars", x.hasStar(0, 5, 2) && x.hasStar(0, 5, 3) && x.hasStar(1, 15, 7) && x.hasStar(2, 0, 0));
        Check.same("commands", Shops.executed(x, "shift 0+3-2;shift 1-1+0;shift 2-0+1"), 3);
        Check.same("shift", x.shiftX(0) + ", " + x.shiftY(0), "3, -2");
        Check.same("shift", x.shiftX(1) + ", " + x.shiftY(1), "-1, 0");
        Check.same("shift", x.shiftX(2) + ", " + x.shiftY(2), "0, 1");
        Check.same("commands", Shops.executed(x, "sheet"), 1);
        Check.same("commands", Shops.executed(x, "sheet;sheet"), 2);
        Check.same("sheets", x.sheetCount(), 3);
        Check.same("commands", Shops.executed(x, "print 0>0;print 1>2"), 2);
        Check.same("colour", x.colour(0, 8, 0), 1);
        Check.same("colour", x.colour(2, 14, 7), 2);
        Check.same("commands", Shops.executed(x, "rack 2;rack 1;out 2"), 3);
        Check.same("place", x.rackPlace(1), 1);
        Check.throwsElement("a sheet that was taken out", () -> x.rackPlace(2));
        Check.same("commands", Shops.executed(x, "hour 5;hour 50;hour 07"), 3);
        Check.same("hour", x.hour(), 62);
        Check.same("changes", x.undoCount(), 8);
        Check.throwsArgument("the buffer is empty", x::execute);
        x.undo();
        Check.same("all commands are undone at once", x.hour(), 0);
        x.undo();
        Check.throwsElement("a sheet in the rack before", () -> x.rackPlace(1));
    }

    private static void failing(String commands, int failed) {
        StarPress x = new StarPress();
        Shops.executed(x, "plate c;star 0 1,1;sheet;sheet");
        Shops.feedAll(x, commands);
        Check.throwsUnsupported(commands, x::execute);
        Check.same("failed command of " + commands, x.failedCommand(), failed);
        Check.same("plates", x.plateCount(), 1);
        Check.same("stars", x.starCount(0), 1);
        Check.same("shift", x.shiftX(0), 0);
        Check.same("sheets", x.sheetCount(), 2);
        Check.same("wetness", x.wetness(0), 0);
        Check.same("drops", x.drops(1), 60);
        Check.same("hour", x.hour(), 0);
        Check.throwsElement("a sheet in the rack", () -> x.sheetInRack(0));
        Check.same("changes", x.undoCount(), 1);
        Check.same("the buffer is empty", x.feed('x'), 1);
        Check.throwsElement("no error position", x::errorPosition);
    }

    private static void executeFailing() {
        failing("star 1 0,0", 0);
        failing("star 0 1,1", 0);
        failing("star 0 16,1", 0);
        failing("star 0 99,0", 0);
        failing("star 0 0,8", 0);
        failing("sheet;shift 0+4+0", 1);
        failing("sheet;shift 0+0-9", 1);
        failing("plate m;shift 0+1+1;shift 2+1+1", 2);
        failing("print 0>0;print 1>0", 1);
        failing("print 0>0;print 0>2", 1);
        failing("rack 0;rack 0", 1);
        failing("rack 0;rack 2", 1);
        failing("rack 0;print 0>0", 1);
        failing("rack 0;out 1", 1);
        failing("out 2", 0);
        failing("hour 3;hour 0", 1);
        failing("hour 3;hour 00", 1);
        failing("hour 50;hour 51", 1);
        failing("plate c;plate c;plate c;plate c;plate c;plate c", 5);
        failing("sheet;sheet;sheet;sheet;sheet;sheet;sheet", 6);
        failing("sheet;rack 0;rack 1;rack 2;out 0;rack 0;sheet;rack 3", 7);
        StarPress x = Shops.withSheets(1);
        for (int times = 0; times < 9; times++) {
            x.passHours(1);
        }
        Shops.feedAll(x, "hour 1;out 0");
        Check.throwsUnsupported("out 0", x::execute);
        for (int left = 7; left >= 0; left--) {
            Check.same("the oldest change is still there", x.undo(), left);
        }
        Check.same("hour", x.hour(), 1);
    }

    private static void malformed(String text, int position) {
        StarPress x = Shops.withSheets(1);
        Shops.feedAll(x, text);
        Check.throwsArgument("'" + text + "'", x::execute);
        Check.same("error position of '" + text + "'", x.errorPosition(), position);
        Check.same("sheets", x.sheetCount(), 1);
        Check.same("changes", x.undoCount(), 1);
        Check.same("the buffer is empty", x.feed('x'), 1);
        Check.throwsElement("no failed command", x::failedCommand);
    }

    private static void errorPosition() {
        Check.throwsElement("none at first", () -> new StarPress().errorPosition());
        String[] whole = {"plate c", "star 0 5,2", "star 0 15,2", "shift 0+1-2", "sheet", "print 0>1", "rack 0",
            "out 0", "hour 5", "hour 50"};
        for (String command : whole) {
            for (int length = 0; length < command.length(); length++) {
                if (!command.equals("hour 50") || length < 6) {
                    malformed(command.substring(0, length), length);
                    malformed("sheet;" + command.substring(0, length), 6 + length);
                }
                malformedAt(command, length);
            }
            malformed(command + ";", command.length() + 1);
            malformed(command + ";;", command.length() + 1);
            malformed(command + "; sheet", command.length() + 1);
            malformed(command + "x", command.length());
            malformed(command + " ", command.length());
        }
        malformed("plx", 2);
        malformed("prx", 2);
        malformed("shx", 2);
        malformed("shee ", 4);
        malformed("shif+", 4);
        malformed("stx", 2);
        malformed("Sheet", 0);
        malformed("sHeet", 1);
        malformed("plate C", 6);
        malformed("plate  c", 6);
        malformed("plate cm", 7);
        malformed("star 0 123,4", 9);
        malformed("star 0 -1,4", 7);
        malformed("star 00 1,4", 6);
        malformed("star 0 5,22", 10);
        malformed("shift 0+1", 9);
        malformed("shift 0+12", 9);
        malformed("shift 0 +1+2", 7);
        malformed("print 0<1", 7);
        malformed("print 0>12", 9);
        malformed("hour 123", 7);
        malformed("hour 1;hour", 11);
        malformed("sheet;sheet;shout 1", 14);
        malformed("rack " + (char) 0x661, 5);
        malformed("" + (char) ('s' + 256), 0);
        malformed("sheet;sheet;sheet;sheet;sheet;sheet;sheet;sheet;sheet;sheet;", 60);
        keptErrorPosition();
        for (String command : whole) {
            textAfterLongerText(command);
        }
        malformed("sheet;sheet;sheet;sheet;sheet;sheet;sheet;sheet;rack 0;shift", 60);
        malformed("sheet;sheet;sheet;sheet;sheet;sheet;sheet;sheet;out 0;plate ", 60);
        malformed("sheet;sheet;sheet;sheet;sheet;sheet;sheet;sheet;out 0;out 0;", 60);
    }

    /** What an earlier text leaves behind in the buffer must not be read with a shorter one. */
    private static void textAfterLongerText(String command) {
        StarPress x = new StarPress();
        for (int length = command.length() - 1; length >= 0; length--) {
            Shops.feedAll(x, "*" + command.substring(1) + "0");
            Check.throwsArgument("a spoilt text", x::execute);
            Shops.feedAll(x, command.substring(0, length));
            if (length < 6 || !command.equals("hour 50")) {
                Check.throwsArgument("a shorter text", x::execute);
                Check.same("error position of a shorter text", x.errorPosition(), length);
            } else {
                Check.same("commands of a shorter text", x.execute(), 1);
                Check.same("hour", x.hour(), 5);
            }
        }
    }

    /** Spoils one character of a command, by one that goes on with no command at all. */
    private static void malformedAt(String command, int index) {
        malformed(command.substring(0, index) + "*" + command.substring(index + 1), index);
    }

    private static void keptErrorPosition() {
        StarPress x = new StarPress();
        x.save();
        Shops.feedAll(x, "sheet!");
        Check.throwsArgument("malformed", x::execute);
        Shops.executed(x, "sheet");
        x.undo();
        x.restore();
        Shops.feedAll(x, "out 0");
        Check.throwsUnsupported("a failed command", x::execute);
        Check.same("the error position stays", x.errorPosition(), 5);
        Check.throwsArgument("nothing fed", x::execute);
        Check.same("the error position of no text", x.errorPosition(), 0);
    }

    private static void failedCommand() {
        StarPress x = new StarPress();
        Check.throwsElement("none at first", x::failedCommand);
        x.save();
        Shops.feedAll(x, "sheet;sheet;out 1");
        Check.throwsUnsupported("a failed command", x::execute);
        Check.same("failed command", x.failedCommand(), 2);
        Shops.executed(x, "sheet");
        x.undo();
        x.restore();
        Shops.feedAll(x, "sheets");
        Check.throwsArgument("malformed", x::execute);
        Check.same("the failed command stays", x.failedCommand(), 2);
        Shops.feedAll(x, "out 1");
        Check.throwsUnsupported("a failed command", x::execute);
        Check.same("failed command", x.failedCommand(), 0);
    }

    private static StarPress beforeChange() {
        StarPress x = shop();
        x.print(0, 0);
        x.putInRack(0);
        x.setShift(1, 1, 2);
        x.save();
        x.restore();
        return x;
    }

    private static StarPress changedAndUndone(Consumer<StarPress> change) {
        StarPress x = beforeChange();
        change.accept(x);
        x.undo();
        return x;
    }

    private static void undone(String what, Consumer<StarPress> change) {
        StarPress x = beforeChange();
        change.accept(x);
        Check.same("changes after " + what, x.undoCount(), 1);
        Check.same("undo of " + what, x.undo(), 0);
        Check.throwsState("undo of nothing", x::undo);
        Check.sameLines("undo of " + what, Shops.told(() -> changedAndUndone(change)),
                Shops.told(PromiseTest::beforeChange));
    }

    private static void undoEachChange() {
        undone("addPlate", x -> x.addPlate(2));
        undone("addStar", x -> x.addStar(0, 15, 7));
        undone("removeStar", x -> x.removeStar(1, 9, 7));
        undone("setShift", x -> x.setShift(0, 3, -3));
        undone("the same setShift", x -> x.setShift(1, 1, 2));
        undone("fit", x -> x.fit(0, 1));
        undone("addSheet", x -> x.addSheet());
        undone("print", x -> x.print(1, 1));
        undone("putInRack", x -> x.putInRack(1));
        undone("takeOut", x -> x.takeOut(0));
        undone("addInk", x -> x.addInk(1, 99));
        undone("passHours", x -> x.passHours(1));
        undone("execute", x -> Shops.executed(x, "print 0>1;print 1>1;out 0;plate m;sheet;hour 2"));
    }

    private static void undo() {
        StarPress x = new StarPress();
        Check.throwsState("undo of nothing", x::undo);
        for (int hours = 1; hours <= 11; hours++) {
            x.passHours(hours);
        }
        int hour = 66;
        for (int left = 7; left >= 0; left--) {
            hour -= left + 4;
            Check.same("changes left", x.undo(), left);
            Check.same("hour", x.hour(), hour);
        }
        Check.throwsState("undo of the third latest change", x::undo);
        Check.same("hour", x.hour(), 6);
        x.passHours(1);
        x.passHours(2);
        Check.same("changes left", x.undo(), 1);
        x.passHours(5);
        Check.same("changes left", x.undo(), 1);
        Check.same("hour", x.hour(), 7);
        Check.same("changes left", x.undo(), 0);
        Check.same("hour", x.hour(), 6);
    }

    private static void undoCount() {
        StarPress x = new StarPress();
        for (int changes = 1; changes <= 20; changes++) {
            x.passHours(1);
            Check.same("changes", x.undoCount(), Math.min(8, changes));
        }
        Check.throwsArgument("a call that throws", () -> x.passHours(0));
        Check.same("changes", x.undoCount(), 8);
        x.undo();
        Check.same("changes", x.undoCount(), 7);
        x.save();
        x.drops(1);
        x.feed('x');
        x.isConsistent();
        Check.same("changes", x.undoCount(), 7);
        Check.throwsIndex("a call that throws", () -> x.print(0, 0));
        Check.same("changes", x.undoCount(), 7);
        x.addSheet();
        x.writeRow(0, 0);
        Check.same("changes", x.undoCount(), 8);
    }

    /** A used shop with changes that can be undone. */
    private static StarPress used() {
        StarPress x = shop();
        x.print(1, 0);
        x.print(1, 0);
        x.putInRack(0);
        x.setShift(0, 1, -1);
        x.addInk(2, 7);
        x.passHours(3);
        return x;
    }

    private static StarPress savedAndRestored(Consumer<StarPress> between) {
        StarPress x = used();
        x.save();
        between.accept(x);
        x.restore();
        return x;
    }

    private static void savedThrough(String what, Consumer<StarPress> between) {
        Check.sameLines("what was saved before " + what,
                Shops.without(Shops.told(() -> savedAndRestored(between)), "changes"),
                Shops.without(Shops.told(PromiseTest::used), "changes"));
    }

    private static void save() {
        StarPress x = new StarPress();
        Check.same("sheets", x.save(), 0);
        StarPress y = used();
        Check.same("sheets", y.save(), 2);
        Check.same("changes stay", y.undoCount(), 8);
        y.addSheet();
        Check.same("sheets", y.save(), 3);
        y.undo();
        Check.same("the latest save", y.restore(), 3);
        savedThrough("nothing", z -> { });
        savedThrough("an undo", StarPress::undo);
        savedThrough("changes", PromiseTest::changeMuch);
    }

    private static void changeMuch(StarPress x) {
        Shops.executed(x, "plate m;star 0 9,1;shift 1+1+1;out 0;print 0>0;rack 1");
        x.passHours(5);
        x.addInk(1, 9);
        x.addSheet();
        x.removeStar(0, 0, 0);
    }

    private static void restore() {
        StarPress x = used();
        Check.throwsState("nothing saved", x::restore);
        Check.same("changes stay", x.undoCount(), 8);
        x.save();
        for (int times = 0; times < 2; times++) {
            changeMuch(x);
            Check.same("sheets", x.restore(), 2);
            Check.same("changes", x.undoCount(), 0);
            Check.throwsState("undo after restore", x::undo);
        }
        savedThrough("a restore and changes", y -> {
            changeMuch(y);
            y.restore();
            changeMuch(y);
        });
        restoreOtherInk();
    }

    private static void restoreOtherInk() {
        StarPress x = new StarPress();
        x.addPlate(4);
        x.save();
        x.undo();
        x.addPlate(1);
        Check.same("ink of the new plate", x.inkOf(0), 1);
        x.restore();
        Check.same("ink of the saved plate", x.inkOf(0), 4);
    }
}

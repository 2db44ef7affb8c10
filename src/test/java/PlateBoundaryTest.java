/** Each sentence on inks, plates and fitting that names a boundary case, with what lies on both sides of it. */
public final class PlateBoundaryTest {
    private static final int MOST_STARS = 20;

    public static void main(String[] args) {
        inks();
        plates();
        Check.part("Fitting: moved by dx columns and dy rows", PlateBoundaryTest::movedPlaces);
        Check.part("Fitting: the shifts of the plates themselves do not matter", PlateBoundaryTest::ownShifts);
        Check.part("Fitting: of all with dx and dy from -3 to 3", PlateBoundaryTest::farthestShifts);
        Check.part("Fitting: of several, the smallest sum, then dx, then dy", PlateBoundaryTest::equalShifts);
        Check.part("Fitting: the most matches come first", PlateBoundaryTest::mostComeFirst);
        Check.part("Fitting: plates without stars and full plates", PlateBoundaryTest::emptyAndFullPlates);
        Check.part("fit: without asking before", PlateBoundaryTest::fitUnasked);
        Check.part("fit: if both are the same plate", PlateBoundaryTest::samePlate);
        Check.finish("PlateBoundaryTest");
    }

    private static void inks() {
        Check.part("Inks: the numbers 1, 2 and 4", PlateBoundaryTest::inkNumbers);
        Check.part("Inks: from 0 drops", PlateBoundaryTest::fewestDrops);
        Check.part("Inks: to 500 drops", PlateBoundaryTest::mostDrops);
        Check.part("Inks: at first 60", PlateBoundaryTest::firstDrops);
        Check.part("addInk: drops from 1 to 99", PlateBoundaryTest::dropsAtOnce);
    }

    private static void plates() {
        Check.part("Plates: at most 6", PlateBoundaryTest::mostPlates);
        Check.part("Plates: at most 6, by commands", PlateBoundaryTest::mostPlatesByCommands);
        Check.part("Plates: indices start at 0 and follow the order", PlateBoundaryTest::plateIndices);
        Check.part("Plates: up to 20 stars", PlateBoundaryTest::mostStars);
        Check.part("Plates: stars at different places", PlateBoundaryTest::differentPlaces);
        Check.part("Plates: a shift from -3 to 3", PlateBoundaryTest::shiftBounds);
        Check.part("Plates: a shift at first 0", PlateBoundaryTest::firstShift);
        Check.part("Plates: x from 0 to 15 and y from 0 to 7", PlateBoundaryTest::starPlaces);
        Check.part("removeStar: the plate has no star there", PlateBoundaryTest::noStarThere);
        Check.part("setShift: the stars beside the sheet", PlateBoundaryTest::starsBeside);
        Check.part("There is no such plate", PlateBoundaryTest::noSuchPlate);
    }

    // Inks

    private static void inkNumbers() {
        StarPress x = new StarPress();
        int plate = 0;
        for (int ink : Shops.INKS) {
            Check.same("plate of ink " + ink, x.addPlate(ink), plate);
            Check.same("ink", x.inkOf(plate), ink);
            Check.same("drops of ink " + ink, x.addInk(ink, 1), 61);
            Check.same("drops", x.drops(ink), 61);
            plate++;
        }
        for (int ink : Shops.NO_INKS) {
            Check.throwsArgument("addPlate of ink " + ink, () -> x.addPlate(ink));
            Check.throwsArgument("addInk of ink " + ink, () -> x.addInk(ink, 1));
            Check.throwsArgument("drops of ink " + ink, () -> x.drops(ink));
        }
        Check.same("plates", x.plateCount(), 3);
    }

    private static void firstDrops() {
        for (int ink : Shops.INKS) {
            Check.same("drops of ink " + ink, new StarPress().drops(ink), 60);
        }
    }

    private static void fewestDrops() {
        for (int ink : Shops.INKS) {
            StarPress x = Shops.withSheets(1);
            x.addPlate(ink);
            Shops.addStars(x, 0, 0, MOST_STARS);
            for (int left = 40; left >= 0; left -= 20) {
                x.print(0, 0);
                Check.same("drops", x.drops(ink), left);
            }
            Shops.refused(x, () -> x.print(0, 0), StarPress.NO_INK, 20);
            Check.same("drops after a refusal", x.drops(ink), 0);
            Check.same("the first drop again", x.addInk(ink, 1), 1);
            Shops.refused(x, () -> x.print(0, 0), StarPress.NO_INK, 19);
            Check.same("drops after a refusal", x.drops(ink), 1);
        }
    }

    private static StarPress filledUp(int ink) {
        StarPress x = Shops.withSheets(1);
        x.addPlate(ink);
        x.addStar(0, 0, 0);
        for (int times = 0; times < 4; times++) {
            x.addInk(ink, 99);
        }
        x.addInk(ink, 43);
        return x;
    }

    private static void mostDrops() {
        for (int ink : Shops.INKS) {
            StarPress x = filledUp(ink);
            Check.same("drops", x.drops(ink), 499);
            Check.throwsState("drop 501, as the second of 2", () -> x.addInk(ink, 2));
            Check.throwsState("drops up to 598", () -> x.addInk(ink, 99));
            Check.same("drops stay", x.drops(ink), 499);
            Check.same("drop 500", x.addInk(ink, 1), 500);
            Check.throwsState("drop 501", () -> x.addInk(ink, 1));
            Check.throwsState("drops up to 599", () -> x.addInk(ink, 99));
            Check.same("drops stay", x.drops(ink), 500);
            x.print(0, 0);
            Check.same("drop 500 again", x.addInk(ink, 1), 500);
            for (int other : Shops.INKS) {
                Check.same("drops of ink " + other, x.drops(other), other == ink ? 500 : 60);
            }
        }
        mostDropsOfAll();
    }

    private static void mostDropsOfAll() {
        StarPress x = new StarPress();
        for (int drops : new int[] {99, 99, 99, 99, 44}) {
            for (int ink : Shops.INKS) {
                x.addInk(ink, drops);
            }
        }
        for (int ink : Shops.INKS) {
            Check.same("drops of ink " + ink, x.drops(ink), 500);
            Check.throwsState("drop 501 of ink " + ink, () -> x.addInk(ink, 1));
        }
    }

    private static void dropsAtOnce() {
        for (int ink : Shops.INKS) {
            Check.same("1 drop", new StarPress().addInk(ink, 1), 61);
            Check.same("99 drops", new StarPress().addInk(ink, 99), 159);
            for (int drops : new int[] {Shops.MIN, -1, 0, 100, Shops.MAX}) {
                StarPress x = new StarPress();
                Check.throwsArgument(drops + " drops", () -> x.addInk(ink, drops));
                Check.same("drops stay", x.drops(ink), 60);
            }
        }
    }

    // Plates

    private static void mostPlates() {
        StarPress x = Shops.withPlates(5);
        Check.same("the sixth plate", x.addPlate(2), 5);
        for (int ink : Shops.INKS) {
            Check.throwsState("the seventh plate", () -> x.addPlate(ink));
        }
        Check.same("plates", x.plateCount(), 6);
        Check.same("the ink of the sixth plate", x.inkOf(5), 2);
        x.undo();
        Check.same("plates", x.plateCount(), 5);
        Check.same("another sixth plate", x.addPlate(4), 5);
        Check.same("the ink of the sixth plate", x.inkOf(5), 4);
        Check.throwsState("the seventh plate", () -> x.addPlate(1));
    }

    private static void mostPlatesByCommands() {
        StarPress x = new StarPress();
        Shops.feedAll(x, "plate c;plate m;plate y;plate c;plate m;plate y;plate c");
        Check.throwsUnsupported("a seventh plate", x::execute);
        Check.same("failed command", x.failedCommand(), 6);
        Check.same("plates", x.plateCount(), 0);
        Check.same("commands", Shops.executed(x, "plate c;plate m;plate y;plate c;plate m;plate y"), 6);
        Check.same("plates", x.plateCount(), 6);
        Shops.feedAll(x, "plate y");
        Check.throwsUnsupported("a seventh plate", x::execute);
        Check.same("failed command", x.failedCommand(), 0);
        Check.same("plates", x.plateCount(), 6);
    }

    private static void plateIndices() {
        StarPress x = new StarPress();
        int[] inks = {4, 1, 2, 2, 1, 4};
        for (int plate = 0; plate < 6; plate++) {
            Check.same("index", x.addPlate(inks[plate]), plate);
            Check.same("plates", x.plateCount(), plate + 1);
            Shops.addStars(x, plate, 0, plate);
        }
        for (int plate = 0; plate < 6; plate++) {
            Check.same("ink of " + plate, x.inkOf(plate), inks[plate]);
            Check.same("stars of " + plate, x.starCount(plate), plate);
        }
    }

    private static void mostStars() {
        StarPress x = Shops.withPlates(2);
        for (int count = 1; count <= MOST_STARS; count++) {
            Check.same("stars", x.addStar(0, count % 16, count / 16), count);
        }
        for (int place = MOST_STARS + 1; place < 128; place++) {
            int column = place % 16;
            int row = place / 16;
            Check.throwsState("star 21 at " + place, () -> x.addStar(0, column, row));
        }
        Check.throwsState("star 21 on another", () -> x.addStar(0, 1, 0));
        Check.same("stars", x.starCount(0), 20);
        Check.same("stars of the other plate", x.addStar(1, 0, 0), 1);
        Check.same("stars after a removal", x.removeStar(0, 1, 0), 19);
        Check.same("star 20 again", x.addStar(0, 15, 7), 20);
        Check.throwsState("star 21", () -> x.addStar(0, 1, 0));
        Shops.feedAll(x, "star 1 1,0;star 0 1,0");
        Check.throwsUnsupported("star 21 by a command", x::execute);
        Check.same("failed command", x.failedCommand(), 1);
        Check.same("stars of the other plate", x.starCount(1), 1);
    }

    private static void differentPlaces() {
        StarPress x = Shops.withPlates(2);
        x.addStar(0, 7, 3);
        Check.throwsState("a second star", () -> x.addStar(0, 7, 3));
        Check.same("stars", x.starCount(0), 1);
        Check.same("stars beside it", x.addStar(0, 6, 3), 2);
        Check.same("stars above it", x.addStar(0, 7, 2), 3);
        Check.same("a star there on the other plate", x.addStar(1, 7, 3), 1);
        x.removeStar(0, 7, 3);
        Check.isTrue("no star there", !x.hasStar(0, 7, 3));
        Check.isTrue("the star of the other plate", x.hasStar(1, 7, 3));
        Check.same("a star there again", x.addStar(0, 7, 3), 3);
        Check.throwsState("a second star", () -> x.addStar(0, 7, 3));
    }

    private static void shiftBounds() {
        StarPress x = Shops.withPlates(2);
        for (int dx = -3; dx <= 3; dx++) {
            for (int dy = -3; dy <= 3; dy++) {
                Check.same("stars beside", x.setShift(0, dx, dy), 0);
                Check.same("matches", x.matches(0, 1, dx, dy), 0);
                Check.same("shift", x.shiftX(0) + ", " + x.shiftY(0), dx + ", " + dy);
            }
        }
        for (int far : Shops.NO_SHIFTS) {
            for (int near : new int[] {-3, 0, 3, far}) {
                noShift(x, far, near);
                noShift(x, near, far);
            }
        }
        Check.same("the shift stays", x.shiftX(0) + ", " + x.shiftY(0), "3, 3");
    }

    private static void noShift(StarPress x, int dx, int dy) {
        Check.throwsArgument("shift " + dx + ", " + dy, () -> x.setShift(0, dx, dy));
        Check.throwsArgument("matches at " + dx + ", " + dy, () -> x.matches(0, 1, dx, dy));
    }

    private static void firstShift() {
        StarPress x = Shops.withPlates(6);
        for (int plate = 0; plate < 6; plate++) {
            Check.same("shift", x.shiftX(plate) + ", " + x.shiftY(plate), "0, 0");
        }
    }

    private static void starPlaces() {
        StarPress x = Shops.withPlates(1);
        for (int place = 0; place < 128; place += 5) {
            int column = place % 16;
            int row = place / 16;
            Check.isTrue("no star at " + place, !x.hasStar(0, column, row));
            Check.same("stars", x.addStar(0, column, row), 1);
            Check.isTrue("a star at " + place, x.hasStar(0, column, row));
            Check.same("stars", x.removeStar(0, column, row), 0);
        }
        for (int[] corner : new int[][] {{0, 0}, {15, 0}, {0, 7}, {15, 7}}) {
            x.addStar(0, corner[0], corner[1]);
            Check.isTrue("a star at a corner", x.hasStar(0, corner[0], corner[1]));
        }
        for (int column : Shops.NO_COLUMNS) {
            noStarPlace(x, column, 0);
            noStarPlace(x, column, 7);
        }
        for (int row : Shops.NO_ROWS) {
            noStarPlace(x, 0, row);
            noStarPlace(x, 15, row);
            noStarPlace(x, 16, row);
        }
        Check.same("stars", x.starCount(0), 4);
    }

    private static void noStarPlace(StarPress x, int column, int row) {
        String place = " at " + column + ", " + row;
        Check.throwsArgument("addStar" + place, () -> x.addStar(0, column, row));
        Check.throwsArgument("removeStar" + place, () -> x.removeStar(0, column, row));
        Check.throwsArgument("hasStar" + place, () -> x.hasStar(0, column, row));
    }

    private static void noStarThere() {
        StarPress x = Shops.withPlates(2);
        Check.throwsElement("a star of an empty plate", () -> x.removeStar(0, 0, 0));
        x.addStar(0, 15, 7);
        x.addStar(1, 14, 7);
        Check.throwsElement("a star of the other plate", () -> x.removeStar(0, 14, 7));
        Check.throwsElement("a star in another row", () -> x.removeStar(0, 15, 6));
        Check.same("stars", x.starCount(0), 1);
        Check.same("stars after the last removal", x.removeStar(0, 15, 7), 0);
        Check.throwsElement("a star that is removed", () -> x.removeStar(0, 15, 7));
        Check.same("stars", x.starCount(0), 0);
        Shops.addStars(x, 0, 0, MOST_STARS);
        Check.throwsElement("a star of a full plate", () -> x.removeStar(0, 15, 7));
        Check.same("stars", x.removeStar(0, 3, 1), 19);
    }

    private static void starsBeside() {
        int[][] stars = {{0, 0}, {15, 0}, {0, 7}, {15, 7}, {3, 3}, {12, 4}, {2, 5}, {13, 2}};
        StarPress x = Shops.withPlates(1);
        for (int[] star : stars) {
            x.addStar(0, star[0], star[1]);
        }
        for (int dx = -3; dx <= 3; dx++) {
            for (int dy = -3; dy <= 3; dy++) {
                int beside = 0;
                for (int[] star : stars) {
                    beside += isPlace(star[0] + dx, star[1] + dy) ? 0 : 1;
                }
                Check.same("stars beside at " + dx + ", " + dy, x.setShift(0, dx, dy), beside);
            }
        }
        StarPress full = Shops.withPlates(1);
        Shops.addStars(full, 0, 0, MOST_STARS);
        Check.same("no star beside", full.setShift(0, 0, 3), 0);
        Check.same("one row beside", full.setShift(0, 0, -1), 16);
        Check.same("all stars beside", full.setShift(0, 0, -2), 20);
    }

    private static boolean isPlace(int column, int row) {
        return column >= 0 && column <= 15 && row >= 0 && row <= 7;
    }

    private interface OnPlate {
        void call(StarPress x, int plate);
    }

    private static void noSuchPlate() {
        for (int count : new int[] {0, 1, 5, 6}) {
            for (int plate : new int[] {Shops.MIN, -1, count, count + 1, Shops.MAX}) {
                StarPress x = Shops.withPlates(count);
                x.addSheet();
                noPlate(x, plate, "addStar", (y, index) -> y.addStar(index, 0, 0));
                noPlate(x, plate, "removeStar", (y, index) -> y.removeStar(index, 0, 0));
                noPlate(x, plate, "setShift", (y, index) -> y.setShift(index, 0, 0));
                noPlate(x, plate, "inkOf", StarPress::inkOf);
                noPlate(x, plate, "starCount", StarPress::starCount);
                noPlate(x, plate, "hasStar", (y, index) -> y.hasStar(index, 0, 0));
                noPlate(x, plate, "shiftX", StarPress::shiftX);
                noPlate(x, plate, "shiftY", StarPress::shiftY);
                noPlate(x, plate, "print", (y, index) -> y.print(index, 0));
                noPair(x, plate, 0);
                noPair(x, 0, plate);
                noPair(x, plate, plate);
                Check.same("changes", x.undoCount(), count + 1);
            }
        }
        Check.same("the last plate", Shops.withPlates(6).starCount(5), 0);
    }

    private static void noPlate(StarPress x, int plate, String name, OnPlate call) {
        Check.throwsIndex(name + " of plate " + plate + " of " + x.plateCount(), () -> call.call(x, plate));
    }

    private static void noPair(StarPress x, int plate, int other) {
        String pair = " of " + plate + ", " + other;
        Check.throwsIndex("fit" + pair, () -> x.fit(plate, other));
        Check.throwsIndex("matches" + pair, () -> x.matches(plate, other, 0, 0));
        Check.throwsIndex("mostMatches" + pair, () -> x.mostMatches(plate, other));
        Check.throwsIndex("mostMatchesByPairs" + pair, () -> x.mostMatchesByPairs(plate, other));
        Check.throwsIndex("bestShiftX" + pair, () -> x.bestShiftX(plate, other));
        Check.throwsIndex("bestShiftY" + pair, () -> x.bestShiftY(plate, other));
    }

    // Fitting

    /** A shop with two plates that have a star each. */
    private static StarPress twoStars(int firstX, int firstY, int secondX, int secondY) {
        StarPress x = Shops.withPlates(2);
        x.addStar(0, firstX, firstY);
        x.addStar(1, secondX, secondY);
        return x;
    }

    private static void movedPlaces() {
        for (int dx = -3; dx <= 3; dx++) {
            for (int dy = -3; dy <= 3; dy++) {
                StarPress x = twoStars(7, 3, 7 + dx, 3 + dy);
                Check.same("matches at " + dx + ", " + dy, x.matches(0, 1, dx, dy), 1);
                Check.same("matches the other way", x.matches(1, 0, -dx, -dy), 1);
                Check.same("matches at 0, 0", x.matches(0, 1, 0, 0), dx == 0 && dy == 0 ? 1 : 0);
            }
        }
        StarPress x = twoStars(15, 3, 0, 4);
        for (int dx = -3; dx <= 3; dx++) {
            for (int dy = -3; dy <= 3; dy++) {
                Check.same("matches over an edge at " + dx + ", " + dy, x.matches(0, 1, dx, dy), 0);
                Check.same("matches back over an edge", x.matches(1, 0, dx, dy), 0);
            }
        }
        StarPress y = twoStars(9, 7, 9, 0);
        Check.same("matches below the last row", y.matches(0, 1, 0, 1), 0);
        Check.same("matches above the first row", y.matches(1, 0, 0, -1), 0);
    }

    private static void ownShifts() {
        StarPress x = twoStars(7, 3, 8, 5);
        x.setShift(0, 3, -3);
        x.setShift(1, -2, 1);
        Check.same("matches", x.matches(0, 1, 1, 2), 1);
        Check.same("most", x.mostMatches(0, 1), 1);
        Check.same("most by pairs", x.mostMatchesByPairs(0, 1), 1);
        Check.same("best", x.bestShiftX(0, 1) + ", " + x.bestShiftY(0, 1), "1, 2");
        Check.same("matches at the shift", x.fit(0, 1), 1);
        Check.same("shift", x.shiftX(0) + ", " + x.shiftY(0), "1, 2");
        Check.same("the shift of the other", x.shiftX(1) + ", " + x.shiftY(1), "-2, 1");
    }

    private static void farthestShifts() {
        for (int dx = -4; dx <= 4; dx++) {
            for (int dy = -3; dy <= 4; dy++) {
                boolean near = dx >= -3 && dx <= 3 && dy <= 3;
                expectBest(twoStars(7, 3, 7 + dx, 3 + dy), near ? 1 : 0, near ? dx : 0, near ? dy : 0);
            }
        }
        expectBest(twoStars(7, 4, 7, 0), 0, 0, 0);
        expectBest(twoStars(0, 0, 15, 7), 0, 0, 0);
        expectBest(twoStars(15, 7, 0, 0), 0, 0, 0);
        expectBest(twoStars(0, 0, 3, 3), 1, 3, 3);
        expectBest(twoStars(15, 7, 12, 4), 1, -3, -3);
    }

    private static void expectBest(StarPress x, int most, int dx, int dy) {
        Check.same("most", x.mostMatches(0, 1), most);
        Check.same("most by pairs", x.mostMatchesByPairs(0, 1), most);
        Check.same("best", x.bestShiftX(0, 1) + ", " + x.bestShiftY(0, 1), dx + ", " + dy);
        Check.same("matches at the fit", x.fit(0, 1), most);
        Check.same("shift", x.shiftX(0) + ", " + x.shiftY(0), dx + ", " + dy);
        Check.isTrue("consistent", x.isConsistent());
    }

    /** Compares every two shifts that have a match each. */
    private static void equalShifts() {
        for (int first = 0; first < 49; first++) {
            for (int second = 0; second < first; second++) {
                int[] a = {first / 7 - 3, first % 7 - 3};
                int[] b = {second / 7 - 3, second % 7 - 3};
                StarPress x = twoStars(7, 3, 7 + a[0], 3 + a[1]);
                x.addStar(1, 7 + b[0], 3 + b[1]);
                int[] best = isBefore(a, b) ? a : b;
                expectBest(x, 1, best[0], best[1]);
            }
        }
    }

    private static boolean isBefore(int[] a, int[] b) {
        int difference = Math.abs(a[0]) + Math.abs(a[1]) - Math.abs(b[0]) - Math.abs(b[1]);
        if (difference != 0) {
            return difference < 0;
        }
        return a[0] != b[0] ? a[0] < b[0] : a[1] < b[1];
    }

    private static void mostComeFirst() {
        StarPress x = twoStars(7, 3, 7, 3);
        x.addStar(0, 9, 3);
        x.addStar(1, 10, 6);
        expectBest(x, 1, 0, 0);
        x.addStar(1, 12, 6);
        expectBest(x, 2, 3, 3);
        x.addStar(1, 9, 3);
        expectBest(x, 2, 0, 0);
    }

    private static void emptyAndFullPlates() {
        StarPress x = Shops.withPlates(2);
        expectBest(x, 0, 0, 0);
        Check.same("most of an empty plate and itself", x.mostMatches(0, 0), 0);
        x.addStar(1, 4, 4);
        expectBest(x, 0, 0, 0);
        Check.same("most with an empty plate", x.mostMatchesByPairs(1, 0), 0);
        StarPress full = Shops.withPlates(2);
        Shops.addStars(full, 0, 32, MOST_STARS);
        Shops.addStars(full, 1, 80, MOST_STARS);
        expectBest(full, 20, 0, 3);
        Check.same("most of a full plate and itself", full.mostMatches(0, 0), 20);
        Check.same("most by pairs", full.mostMatchesByPairs(0, 0), 20);
        Check.same("best shift to itself", full.bestShiftX(1, 1) + ", " + full.bestShiftY(1, 1), "0, 0");
    }

    private static void fitUnasked() {
        StarPress x = twoStars(7, 3, 5, 6);
        Check.same("matches", x.fit(0, 1), 1);
        Check.same("shift", x.shiftX(0) + ", " + x.shiftY(0), "-2, 3");
        Check.same("matches the other way", x.fit(1, 0), 1);
        Check.same("shift", x.shiftX(1) + ", " + x.shiftY(1), "2, -3");
        x.addStar(0, 6, 6);
        x.addStar(0, 9, 7);
        x.addStar(1, 8, 7);
        Check.same("matches with more stars", x.fit(0, 1), 2);
        Check.same("shift", x.shiftX(0) + ", " + x.shiftY(0), "-1, 0");
    }

    private static void samePlate() {
        StarPress x = Shops.withPlates(6);
        for (int plate = 0; plate < 6; plate++) {
            int same = plate;
            Check.throwsArgument("fit of " + plate + " to itself", () -> x.fit(same, same));
            Check.same("most of " + plate + " and itself", x.mostMatches(same, same), 0);
            Check.same("matches of " + plate + " and itself", x.matches(same, same, 3, -3), 0);
        }
        Check.same("fit of the first to the last", x.fit(0, 5), 0);
        Check.same("fit of the last to the first", x.fit(5, 0), 0);
    }
}

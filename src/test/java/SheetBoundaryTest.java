/** Each sentence on sheets, printing and output that names a boundary case, with what lies on both sides of it. */
public final class SheetBoundaryTest {
    public static void main(String[] args) {
        sheets();
        printing();
        answers();
        Check.finish("SheetBoundaryTest");
    }

    private static void sheets() {
        Check.part("Sheets: at most 8", SheetBoundaryTest::mostSheets);
        Check.part("Sheets: at most 8, by commands", SheetBoundaryTest::mostSheetsByCommands);
        Check.part("Sheets: indices start at 0 and follow the order", SheetBoundaryTest::sheetIndices);
        Check.part("Sheets: 128 places, colours, wetness and smears at first 0", SheetBoundaryTest::newSheets);
        Check.part("Sheets: x from 0 to 15 and y from 0 to 7", SheetBoundaryTest::sheetPlaces);
        Check.part("Inks: a colour is a number from 0 to 7", SheetBoundaryTest::colours);
        Check.part("There is no such sheet", SheetBoundaryTest::noSuchSheet);
    }

    private static void printing() {
        Check.part("Printing: a dry sheet does not smear", SheetBoundaryTest::drySheet);
        Check.part("Printing: if the wetness is more than 0, it smears once", SheetBoundaryTest::smearsOnce);
        Check.part("Printing: places with x from 1 to 15 smear", SheetBoundaryTest::smearedPlaces);
        Check.part("Printing: all inks that the place to the left had before", SheetBoundaryTest::smearedInks);
        Check.part("Printing: it smears each time, by one place", SheetBoundaryTest::smearsEachTime);
        Check.part("Printing: a wet sheet without colours smears, too", SheetBoundaryTest::smearsWithoutColours);
        Check.part("Printing: it smears before the stars are printed", SheetBoundaryTest::smearsFirst);
        Check.part("Printing: the moved place, if it is on the sheet", SheetBoundaryTest::movedPlaces);
        Check.part("Printing: the place of the star gets its intended colour", SheetBoundaryTest::intendedPlaces);
        Check.part("Printing: intended colours stay with the next print", SheetBoundaryTest::intendedColoursStay);
        Check.part("Printing: the drops decrease by the number of stars", SheetBoundaryTest::usedDrops);
        Check.part("Printing: divided by 4 and rounded up", SheetBoundaryTest::wetnessOfStars);
        Check.part("Printing: refused in the rack", SheetBoundaryTest::refusedInRack);
        Check.part("Printing: refused for missing drops", SheetBoundaryTest::refusedForDrops);
        Check.part("Printing: the first of these reasons", SheetBoundaryTest::firstReason);
        Check.part("Printing: the latest refusal is kept", SheetBoundaryTest::latestRefusal);
    }

    private static void answers() {
        Check.part("misprints: none to all stars", SheetBoundaryTest::misprints);
        Check.part("misprints: a place with several wrong inks", SheetBoundaryTest::severalWrongInks);
        Check.part("sheetByMisprints: no such rank", SheetBoundaryTest::ranks);
        Check.part("sheetByMisprints: of several, the smallest index", SheetBoundaryTest::equalRanks);
        Check.part("sheetByMisprints: of several with many misprints", SheetBoundaryTest::equalRanksOfMany);
        Check.part("meanWetness and smearedFraction: no sheets", SheetBoundaryTest::noSheets);
        Check.part("meanWetness and smearedFraction: one sheet and all", SheetBoundaryTest::allSheets);
        Check.part("meanWetness and smearedFraction: in the rack", SheetBoundaryTest::sheetsInRack);
        Check.part("writeRow: y from 0 to 7", SheetBoundaryTest::rows);
        Check.part("outputCharacter: empty at first", SheetBoundaryTest::emptyOutput);
        Check.part("outputCharacter: from 0 to 15", SheetBoundaryTest::outputBounds);
    }

    // Sheets

    private static void mostSheets() {
        StarPress x = Shops.withSheets(7);
        Check.same("the eighth sheet", x.addSheet(), 7);
        Check.throwsState("the ninth sheet", x::addSheet);
        Check.same("sheets", x.sheetCount(), 8);
        x.undo();
        Check.same("sheets", x.sheetCount(), 7);
        Check.same("another eighth sheet", x.addSheet(), 7);
        Check.throwsState("the ninth sheet", x::addSheet);
        Check.same("sheets", x.sheetCount(), 8);
    }

    private static void mostSheetsByCommands() {
        StarPress x = new StarPress();
        Shops.feedAll(x, "sheet;sheet;sheet;sheet;sheet;sheet;sheet;sheet;sheet;sheet");
        Check.throwsUnsupported("a ninth sheet", x::execute);
        Check.same("failed command", x.failedCommand(), 8);
        Check.same("sheets", x.sheetCount(), 0);
        Check.same("commands", Shops.executed(x, "sheet;sheet;sheet;sheet;sheet;sheet;sheet;sheet"), 8);
        Check.same("sheets", x.sheetCount(), 8);
        Shops.feedAll(x, "sheet");
        Check.throwsUnsupported("a ninth sheet", x::execute);
        Check.same("failed command", x.failedCommand(), 0);
        Check.same("sheets", x.sheetCount(), 8);
    }

    private static void sheetIndices() {
        StarPress x = new StarPress();
        x.addPlate(1);
        for (int sheet = 0; sheet < 8; sheet++) {
            Check.same("index", x.addSheet(), sheet);
            Check.same("sheets", x.sheetCount(), sheet + 1);
            x.addStar(0, sheet, 2);
            x.print(0, sheet);
        }
        for (int sheet = 0; sheet < 8; sheet++) {
            Check.same("places of " + sheet, x.placesOf(sheet, 1), sheet + 1);
        }
    }

    private static void newSheets() {
        for (int sheet : new int[] {0, 7}) {
            StarPress x = Shops.withSheets(8);
            for (int place = 0; place < 128; place++) {
                Check.same("colour at " + place, x.colour(sheet, place % 16, place / 16), 0);
                Check.same("intended at " + place, x.intended(sheet, place % 16, place / 16), 0);
            }
            Check.same("places of colour 0", x.placesOf(sheet, 0), 128);
            Check.same("wetness", x.wetness(sheet), 0);
            Check.same("smears", x.smears(sheet), 0);
            Check.same("misprints", x.misprints(sheet), 0);
            Check.same("misprints by sets", x.misprintsBySets(sheet), 0);
            Check.isTrue("it is dry", !x.wouldSmear(sheet));
            Check.throwsElement("its place in the rack", () -> x.rackPlace(sheet));
        }
    }

    private static void sheetPlaces() {
        StarPress x = Shops.withStars(0, 1);
        int[][] corners = {{0, 0}, {15, 0}, {0, 7}, {15, 7}};
        for (int[] corner : corners) {
            x.addStar(0, corner[0], corner[1]);
        }
        x.print(0, 0);
        for (int[] corner : corners) {
            Check.same("colour at a corner", x.colour(0, corner[0], corner[1]), 1);
            Check.same("intended at a corner", x.intended(0, corner[0], corner[1]), 1);
        }
        for (int column : Shops.NO_COLUMNS) {
            noSheetPlace(x, column, 0);
            noSheetPlace(x, column, 7);
        }
        for (int row : Shops.NO_ROWS) {
            noSheetPlace(x, 0, row);
            noSheetPlace(x, 15, row);
            noSheetPlace(x, -1, row);
        }
    }

    private static void noSheetPlace(StarPress x, int column, int row) {
        String place = " at " + column + ", " + row;
        Check.throwsArgument("colour" + place, () -> x.colour(0, column, row));
        Check.throwsArgument("intended" + place, () -> x.intended(0, column, row));
    }

    private static void colours() {
        StarPress x = Shops.withSheets(1);
        for (int plate = 0; plate < 3; plate++) {
            x.addPlate(1 << plate);
            for (int colour = 0; colour < 8; colour++) {
                if ((colour >> plate & 1) != 0) {
                    x.addStar(plate, 8 + colour, 7);
                }
            }
            x.print(plate, 0);
            x.passHours(2);
        }
        for (int colour = 0; colour < 8; colour++) {
            Check.same("colour", x.colour(0, 8 + colour, 7), colour);
            Check.same("intended", x.intended(0, 8 + colour, 7), colour);
            Check.same("places of " + colour, x.placesOf(0, colour), colour == 0 ? 121 : 1);
        }
        for (int colour : new int[] {Shops.MIN, -1, 8, Shops.MAX}) {
            Check.throwsArgument("places of " + colour, () -> x.placesOf(0, colour));
        }
        Check.same("row", Shops.row(x, 0, 7), ".........1234567");
    }

    private interface OnSheet {
        void call(StarPress x, int sheet);
    }

    private static void noSuchSheet() {
        for (int count : new int[] {0, 1, 7, 8}) {
            for (int sheet : new int[] {Shops.MIN, -1, count, count + 1, Shops.MAX}) {
                StarPress x = Shops.withSheets(count);
                x.addPlate(1);
                noSheet(x, sheet, "print", (y, index) -> y.print(0, index));
                noSheet(x, sheet, "wouldSmear", StarPress::wouldSmear);
                noSheet(x, sheet, "colour", (y, index) -> y.colour(index, 0, 0));
                noSheet(x, sheet, "intended", (y, index) -> y.intended(index, 0, 0));
                noSheet(x, sheet, "placesOf", (y, index) -> y.placesOf(index, 0));
                noSheet(x, sheet, "wetness", StarPress::wetness);
                noSheet(x, sheet, "smears", StarPress::smears);
                noSheet(x, sheet, "misprints", StarPress::misprints);
                noSheet(x, sheet, "misprintsBySets", StarPress::misprintsBySets);
                noSheet(x, sheet, "putInRack", StarPress::putInRack);
                noSheet(x, sheet, "takeOut", StarPress::takeOut);
                noSheet(x, sheet, "rackPlace", StarPress::rackPlace);
                noSheet(x, sheet, "hoursUntilDry", StarPress::hoursUntilDry);
                noSheet(x, sheet, "hoursUntilDryAtOnce", StarPress::hoursUntilDryAtOnce);
                noSheet(x, sheet, "writeRow", (y, index) -> y.writeRow(index, 0));
                Check.throwsElement("no refusal", x::refusalReason);
            }
        }
        Check.same("the last sheet", Shops.withSheets(8).wetness(7), 0);
    }

    private static void noSheet(StarPress x, int sheet, String name, OnSheet call) {
        Check.throwsIndex(name + " of sheet " + sheet + " of " + x.sheetCount(), () -> call.call(x, sheet));
    }

    // Printing

    private static void drySheet() {
        StarPress x = Shops.printed(1);
        x.passHours(1);
        Check.same("wetness", x.wetness(0), 0);
        x.print(0, 0);
        Check.same("smears", x.smears(0), 0);
        Check.same("row", Shops.row(x, 0, 0), "1...............");
        StarPress blank = Shops.withStars(0, 1);
        blank.print(0, 0);
        blank.print(0, 0);
        Check.same("smears of a sheet that no star made wet", blank.smears(0), 0);
    }

    private static void smearsOnce() {
        for (int stars : new int[] {1, 4, 5, 13, 17, 20}) {
            StarPress x = Shops.printed(stars);
            x.addPlate(4);
            Check.isTrue("it would smear", x.wouldSmear(0));
            x.print(1, 0);
            Check.same("smears with a wetness of " + (stars + 3) / 4, x.smears(0), 1);
            Check.same("the place right of the last star", x.colour(0, stars % 16, stars / 16), 1);
            Check.same("two places right of it", x.colour(0, stars % 16 + 1, stars / 16), 0);
            x.print(1, 0);
            Check.same("smears when it is dry again", x.smears(0), 1);
        }
    }

    private static void smearedPlaces() {
        for (int place = 0; place < 128; place++) {
            int column = place % 16;
            int row = place / 16;
            StarPress x = Shops.withStars(0, 1);
            x.addStar(0, column, row);
            x.addPlate(2);
            x.print(0, 0);
            x.print(1, 0);
            for (int y = Math.max(0, row - 1); y <= Math.min(7, row + 1); y++) {
                for (int to = 0; to < 16; to++) {
                    int due = y == row && (to == column || to == column + 1) ? 1 : 0;
                    Check.same("colour of " + to + ", " + y + " by " + place, x.colour(0, to, y), due);
                }
            }
            Check.same("places", x.placesOf(0, 1), column < 15 ? 2 : 1);
            Check.same("misprints", x.misprints(0), column < 15 ? 1 : 0);
        }
    }

    private static void smearedInks() {
        StarPress x = Shops.withSheets(1);
        int[][] columns = {{0, 4, 14}, {1, 4, 15}, {4, 5}};
        for (int plate = 0; plate < 3; plate++) {
            x.addPlate(Shops.INKS[plate]);
            for (int column : columns[plate]) {
                x.addStar(plate, column, 3);
            }
            x.print(plate, 0);
            x.passHours(2);
        }
        Check.same("row", Shops.row(x, 0, 3), "12..74........12");
        x.print(2, 0);
        x.passHours(2);
        x.print(2, 0);
        Check.same("a dry sheet", Shops.row(x, 0, 3), "12..74........12");
        x.print(2, 0);
        Check.same("smeared once", Shops.row(x, 0, 3), "132.774.......13");
        x.print(2, 0);
        Check.same("smeared twice", Shops.row(x, 0, 3), "13327774......13");
    }

    private static void smearsEachTime() {
        StarPress x = Shops.withSheets(1);
        for (int plate = 0; plate < 3; plate++) {
            x.addPlate(Shops.INKS[plate]);
            x.addStar(plate, 0, 3);
            x.print(plate, 0);
            x.passHours(2);
        }
        x.print(0, 0);
        for (int times = 1; times <= 20; times++) {
            x.print(0, 0);
            Check.same("smears", x.smears(0), times);
            int reached = Math.min(15, times);
            Check.same("row", Shops.row(x, 0, 3), "7".repeat(reached + 1) + ".".repeat(15 - reached));
        }
    }

    private static void smearsWithoutColours() {
        StarPress x = Shops.withStars(5, 1);
        x.setShift(0, 0, -1);
        for (int times = 0; times < 3; times++) {
            Check.same("stars beside", x.print(0, 0), 5);
            Check.same("smears", x.smears(0), times);
            Check.same("places without colour", x.placesOf(0, 0), 128);
        }
    }

    private static void smearsFirst() {
        StarPress x = Shops.withStars(1, 1);
        x.addPlate(4);
        x.addStar(1, 6, 0);
        x.print(0, 0);
        x.print(1, 0);
        Check.same("row", Shops.row(x, 0, 0), "11....4.........");
        Check.same("wetness", x.wetness(0), 1);
    }

    private static final int[][] STARS = {{0, 0}, {15, 0}, {0, 7}, {15, 7}, {3, 3}, {12, 4}, {2, 5}, {13, 2}};

    private static StarPress printedAt(int dx, int dy) {
        StarPress x = Shops.withStars(0, 1);
        for (int[] star : STARS) {
            x.addStar(0, star[0], star[1]);
        }
        x.setShift(0, dx, dy);
        return x;
    }

    private static boolean isStar(int column, int row) {
        for (int[] star : STARS) {
            if (star[0] == column && star[1] == row) {
                return true;
            }
        }
        return false;
    }

    private static void movedPlaces() {
        for (int shift = 0; shift < 49; shift++) {
            int dx = shift / 7 - 3;
            int dy = shift % 7 - 3;
            StarPress x = printedAt(dx, dy);
            int beside = x.setShift(0, dx, dy);
            Check.same("stars beside", x.print(0, 0), beside);
            int printed = 0;
            for (int place = 0; place < 128; place++) {
                int column = place % 16;
                int row = place / 16;
                int due = isStar(column - dx, row - dy) ? 1 : 0;
                Check.same("colour of " + place + " at " + dx + ", " + dy, x.colour(0, column, row), due);
                printed += due;
            }
            Check.same("stars beside the sheet", beside, STARS.length - printed);
        }
    }

    private static void intendedPlaces() {
        for (int shift = 0; shift < 49; shift += 6) {
            StarPress x = printedAt(shift / 7 - 3, shift % 7 - 3);
            x.print(0, 0);
            for (int place = 0; place < 128; place++) {
                int due = isStar(place % 16, place / 16) ? 1 : 0;
                Check.same("intended of " + place, x.intended(0, place % 16, place / 16), due);
            }
        }
        StarPress x = Shops.withStars(20, 1);
        x.setShift(0, 0, -2);
        Check.same("all stars beside", x.print(0, 0), 20);
        Check.same("places without colour", x.placesOf(0, 0), 128);
        Check.same("misprints", x.misprints(0), 20);
        Check.same("misprints by sets", x.misprintsBySets(0), 20);
        Check.same("drops", x.drops(1), 40);
        Check.same("wetness", x.wetness(0), 5);
    }

    private static void intendedColoursStay() {
        StarPress x = Shops.withStars(3, 1);
        x.addPlate(StarPress.CYAN);
        Shops.addStars(x, 1, 2, 4);
        x.addPlate(StarPress.MAGENTA);
        Shops.addStars(x, 2, 0, 2);
        int[][] due = {{1, 1, 1, 0, 0, 0}, {1, 1, 1, 0, 0, 0}, {1, 1, 1, 1, 1, 1}, {3, 3, 1, 1, 1, 1}};
        int[] plates = {0, 0, 1, 2};
        for (int print = 0; print < 4; print++) {
            x.print(plates[print], 0);
            for (int column = 0; column < 6; column++) {
                Check.same("intended of " + column, x.intended(0, column, 0), due[print][column]);
            }
        }
    }

    private static void usedDrops() {
        for (int stars = 0; stars <= 20; stars++) {
            StarPress x = Shops.printed(stars);
            Check.same("drops", x.drops(1), 60 - stars);
            Check.same("drops of the other inks", x.drops(2) + x.drops(4), 120);
            x.print(0, 0);
            Check.same("drops", x.drops(1), 60 - 2 * stars);
            StarPress beside = Shops.withStars(stars, 1);
            Check.same("stars beside", beside.setShift(0, 0, -3), stars);
            Check.same("stars beside", beside.print(0, 0), stars);
            Check.same("drops", beside.drops(1), 60 - stars);
        }
    }

    private static void wetnessOfStars() {
        int[] due = {0, 1, 1, 1, 1, 2, 2, 2, 2, 3, 3, 3, 3, 4, 4, 4, 4, 5, 5, 5, 5};
        for (int stars = 0; stars <= 20; stars++) {
            StarPress x = Shops.withStars(20, 1);
            x.addPlate(2);
            Shops.addStars(x, 1, 40, stars);
            x.print(1, 0);
            Check.same("wetness of " + stars + " stars", x.wetness(0), due[stars]);
            x.print(0, 0);
            Check.same("wetness of 20 stars", x.wetness(0), 5);
            x.print(1, 0);
            Check.same("wetness of " + stars + " stars after 20", x.wetness(0), due[stars]);
        }
    }

    private static void refusedInRack() {
        StarPress x = Shops.withStars(4, 8);
        for (int place = 0; place < 3; place++) {
            int sheet = 7 - place;
            x.putInRack(sheet);
            Shops.refused(x, () -> x.print(0, sheet), StarPress.IN_RACK, place);
            Check.same("places without colour", x.placesOf(sheet, 0), 128);
            Check.same("wetness", x.wetness(sheet), 0);
        }
        Check.same("drops", x.drops(1), 60);
        x.takeOut(6);
        Check.same("a sheet that is out again", x.print(0, 6), 0);
        x.putInRack(0);
        Shops.refused(x, () -> x.print(0, 0), StarPress.IN_RACK, 1);
    }

    private static void refusedForDrops() {
        for (int left = 0; left <= 20; left++) {
            StarPress x = Shops.withStars(20 - left, 2);
            if (left < 20) {
                x.print(0, 0);
            }
            x.addPlate(1);
            Shops.addStars(x, 1, 0, 20);
            x.print(1, 0);
            x.print(1, 0);
            Check.same("drops", x.drops(1), left);
            if (left < 20) {
                Shops.refused(x, () -> x.print(1, 1), StarPress.NO_INK, 20 - left);
                Check.same("drops", x.drops(1), left);
                Check.same("places without colour", x.placesOf(1, 0), 128);
                Check.same("smears of a wet sheet", x.smears(0), 2);
                x.addInk(1, 20 - left);
            }
            Check.same("with as many drops as stars", x.print(1, 1), 0);
            Check.same("drops", x.drops(1), 0);
            x.addPlate(1);
            Check.same("no stars need no drops", x.print(2, 1), 0);
        }
    }

    private static void firstReason() {
        StarPress x = Shops.withStars(20, 2);
        for (int times = 0; times < 3; times++) {
            x.print(0, 0);
        }
        x.putInRack(1);
        x.putInRack(0);
        Shops.refused(x, () -> x.print(0, 0), StarPress.IN_RACK, 1);
        Shops.refused(x, () -> x.print(0, 1), StarPress.IN_RACK, 0);
        x.takeOut(0);
        Shops.refused(x, () -> x.print(0, 0), StarPress.NO_INK, 20);
    }

    private static void latestRefusal() {
        StarPress x = Shops.withStars(20, 4);
        Check.throwsElement("no reason", x::refusalReason);
        Check.throwsElement("no detail", x::refusalDetail);
        for (int times = 0; times < 3; times++) {
            x.print(0, times);
        }
        Check.throwsElement("no reason yet", x::refusalReason);
        Shops.refused(x, () -> x.print(0, 0), StarPress.NO_INK, 20);
        x.addInk(1, 20);
        x.print(0, 0);
        Check.same("the reason stays", x.refusalReason(), StarPress.NO_INK);
        for (int sheet = 0; sheet < 3; sheet++) {
            x.putInRack(sheet);
        }
        Shops.refused(x, () -> x.putInRack(3), StarPress.RACK_FULL, 3);
        Shops.refused(x, () -> x.print(0, 0), StarPress.IN_RACK, 0);
        Shops.refused(x, () -> x.print(0, 3), StarPress.NO_INK, 20);
        Check.throwsIndex("no plate", () -> x.print(1, 0));
        Check.throwsState("in the rack already", () -> x.putInRack(0));
        Check.same("the reason stays", x.refusalReason(), StarPress.NO_INK);
        Check.same("the detail stays", x.refusalDetail(), 20);
    }

    // Answers

    private static void misprints() {
        for (int stars = 0; stars <= 20; stars++) {
            StarPress right = Shops.printed(stars);
            Check.same("misprints", right.misprints(0), 0);
            Check.same("misprints by sets", right.misprintsBySets(0), 0);
            StarPress wrong = Shops.withStars(stars, 1);
            wrong.setShift(0, 0, 3);
            wrong.print(0, 0);
            Check.same("misprints", wrong.misprints(0), 2 * stars);
            Check.same("misprints by sets", wrong.misprintsBySets(0), 2 * stars);
        }
        StarPress x = Shops.withStars(0, 1);
        x.addPlate(2);
        x.addStar(0, 15, 7);
        x.addStar(1, 14, 7);
        x.setShift(1, 1, 0);
        x.print(0, 0);
        x.passHours(1);
        x.print(1, 0);
        Check.same("a missing ink and one too many", x.misprints(0), 2);
        Check.same("by sets", x.misprintsBySets(0), 2);
        Check.same("colour", x.colour(0, 15, 7), 3);
    }

    private static void severalWrongInks() {
        StarPress x = Shops.withSheets(1);
        for (int plate = 0; plate < 3; plate++) {
            x.addPlate(Shops.INKS[plate]);
            x.addStar(plate, 9, 4);
            x.setShift(plate, 2, 1);
            x.print(plate, 0);
            Check.same("misprints of " + plate, x.misprints(0), 2);
            Check.same("by sets", x.misprintsBySets(0), 2);
            x.passHours(2);
        }
        x.addPlate(StarPress.CYAN);
        x.addStar(3, 9, 4);
        x.addStar(3, 11, 5);
        x.print(3, 0);
        Check.same("with one ink that is right", x.misprints(0), 2);
        Check.same("by sets", x.misprintsBySets(0), 2);
    }

    private static void ranks() {
        for (int count = 0; count <= 8; count++) {
            StarPress x = Shops.withSheets(count);
            for (int rank = 0; rank < count; rank++) {
                Check.same("rank " + rank, x.sheetByMisprints(rank), rank);
            }
            for (int rank : new int[] {Shops.MIN, -1, count, count + 1, Shops.MAX}) {
                Check.throwsElement("rank " + rank + " of " + count, () -> x.sheetByMisprints(rank));
            }
        }
    }

    private static void equalRanks() {
        StarPress x = Shops.withStars(1, 8);
        x.setShift(0, 0, 3);
        for (int sheet : new int[] {7, 0, 4}) {
            x.print(0, sheet);
        }
        x.addStar(0, 5, 2);
        x.print(0, 2);
        int[] due = {1, 3, 5, 6, 0, 4, 7, 2};
        for (int rank = 0; rank < 8; rank++) {
            Check.same("rank " + rank, x.sheetByMisprints(rank), due[rank]);
        }
    }

    private static void equalRanksOfMany() {
        StarPress x = Shops.withStars(20, 8);
        x.addInk(1, 99);
        x.addInk(1, 1);
        x.setShift(0, 0, 3);
        for (int sheet : new int[] {6, 1, 5}) {
            x.print(0, sheet);
            x.print(0, sheet);
        }
        for (int sheet : new int[] {0, 3}) {
            x.print(0, sheet);
        }
        int[] misprints = {40, 41, 0, 40, 0, 41, 41, 0};
        int[] due = {2, 4, 7, 0, 3, 1, 5, 6};
        for (int sheet = 0; sheet < 8; sheet++) {
            Check.same("misprints of " + sheet, x.misprints(sheet), misprints[sheet]);
            Check.same("rank " + sheet, x.sheetByMisprints(sheet), due[sheet]);
        }
    }

    private static void noSheets() {
        StarPress x = new StarPress();
        Check.throwsArithmetic("meanWetness", x::meanWetness);
        Check.throwsArithmetic("smearedFraction", x::smearedFraction);
        x.addSheet();
        Check.same("mean", x.meanWetness(), 0.0);
        Check.same("fraction", x.smearedFraction(), 0.0f);
        x.undo();
        Check.throwsArithmetic("meanWetness after undo", x::meanWetness);
        Check.throwsArithmetic("smearedFraction after undo", x::smearedFraction);
    }

    private static void allSheets() {
        for (int count = 1; count <= 8; count++) {
            StarPress x = Shops.withStars(9, count);
            x.addInk(1, 99);
            int wet = 0;
            for (int sheet = 0; sheet < count; sheet++) {
                x.print(0, sheet);
                wet += 3;
                Check.same("mean", x.meanWetness(), (double) wet / (double) count);
                Check.same("fraction", x.smearedFraction(), (float) sheet / (float) count);
                x.print(0, sheet);
                Check.same("fraction", x.smearedFraction(), (float) (sheet + 1) / (float) count);
            }
        }
    }

    private static void sheetsInRack() {
        for (int count = 1; count <= 3; count++) {
            StarPress x = Shops.withStars(5, count);
            for (int sheet = 0; sheet < count; sheet++) {
                x.print(0, sheet);
                x.print(0, sheet);
                x.putInRack(sheet);
            }
            Check.same("mean", x.meanWetness(), 2.0);
            Check.same("fraction", x.smearedFraction(), 1.0f);
            x.addSheet();
            Check.same("mean", x.meanWetness(), 2.0 * count / (count + 1.0));
            Check.same("fraction", x.smearedFraction(), (float) count / (float) (count + 1));
        }
    }

    private static void rows() {
        StarPress x = Shops.withStars(0, 1);
        for (int y = 0; y < 8; y++) {
            x.addStar(0, 2 * y, y);
            x.addStar(0, 2 * y + 1, y);
        }
        x.print(0, 0);
        for (int y = 0; y < 8; y++) {
            Check.same("length", x.writeRow(0, y), 16);
            Check.same("row", Shops.row(x, 0, y), "..".repeat(y) + "11" + "..".repeat(7 - y));
        }
        for (int y : Shops.NO_ROWS) {
            Check.throwsArgument("row " + y, () -> x.writeRow(0, y));
            Check.same("the output stays", x.outputCharacter(15), '1');
            Check.same("the output stays", x.outputCharacter(0), '.');
        }
        Check.throwsIndex("a row of no sheet", () -> x.writeRow(1, 0));
        Check.same("the output stays", x.outputCharacter(15), '1');
    }

    private static void emptyOutput() {
        StarPress x = Shops.withSheets(1);
        for (int index : new int[] {Shops.MIN, -1, 0, 1, 15, 16, Shops.MAX}) {
            Check.throwsIndex("character " + index, () -> x.outputCharacter(index));
        }
        Check.throwsArgument("a row that is not there", () -> x.writeRow(0, 8));
        Check.throwsIndex("character 0 still", () -> x.outputCharacter(0));
    }

    private static void outputBounds() {
        StarPress x = Shops.printed(16);
        x.writeRow(0, 0);
        Check.same("the first character", x.outputCharacter(0), '1');
        Check.same("the last character", x.outputCharacter(15), '1');
        for (int index : new int[] {Shops.MIN, -1, 16, 17, Shops.MAX}) {
            Check.throwsIndex("character " + index, () -> x.outputCharacter(index));
        }
        x.writeRow(0, 1);
        Check.same("the next output", x.outputCharacter(0), '.');
        Check.same("the next output", x.outputCharacter(15), '.');
    }
}

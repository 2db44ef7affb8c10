/** Calls for which several conditions for exceptions hold: the one that the document lists first decides. */
public final class OrderTest {
    public static void main(String[] args) {
        Check.part("no such plate before all else", OrderTest::noPlate);
        Check.part("no such sheet before all else", OrderTest::noSheet);
        Check.part("addPlate: a wrong ink before 6 plates", OrderTest::wrongInkOfSeventhPlate);
        Check.part("addStar: a wrong place before 20 stars", OrderTest::wrongPlaceOnFullPlate);
        Check.part("addStar: a star there and 20 stars", OrderTest::starThereOnFullPlate);
        Check.part("fit: no such plate before the same plate", OrderTest::fitOfNoPlate);
        Check.part("print: no such plate or sheet before a refusal", OrderTest::printOfNone);
        Check.part("print: in the rack before missing drops", OrderTest::printInRackWithoutDrops);
        Check.part("putInRack: in the rack before a full rack", OrderTest::insideFullRack);
        Check.part("addInk: wrong numbers before more than 500", OrderTest::wrongInkBeyondMost);
        Check.part("execute: malformed before a command that fails", OrderTest::malformedAndFailing);
        Check.part("execute: the first command that fails", OrderTest::severalFailing);
        Check.finish("OrderTest");
    }

    private static void noPlate() {
        StarPress x = Shops.withStars(20, 1);
        for (int plate : new int[] {Shops.MIN, -1, 1, 6, Shops.MAX}) {
            Check.throwsIndex("addStar at no place", () -> x.addStar(plate, 16, -1));
            Check.throwsIndex("addStar at a star", () -> x.addStar(plate, 0, 0));
            Check.throwsIndex("removeStar at no place", () -> x.removeStar(plate, Shops.MAX, 8));
            Check.throwsIndex("removeStar of no star", () -> x.removeStar(plate, 15, 7));
            Check.throwsIndex("setShift too far", () -> x.setShift(plate, 4, -4));
            Check.throwsIndex("hasStar at no place", () -> x.hasStar(plate, -1, 8));
            Check.throwsIndex("matches too far", () -> x.matches(plate, 0, 4, 0));
            Check.throwsIndex("matches with no plate too far", () -> x.matches(0, plate, 0, -4));
            Check.throwsIndex("matches of no two plates too far", () -> x.matches(plate, plate, 4, 4));
        }
        Check.throwsArgument("removeStar at no place, where no star is", () -> x.removeStar(0, 16, 7));
    }

    private static void noSheet() {
        StarPress x = Shops.withSheets(2);
        for (int sheet : new int[] {Shops.MIN, -1, 2, 8, Shops.MAX}) {
            Check.throwsIndex("colour at no place", () -> x.colour(sheet, 16, 8));
            Check.throwsIndex("intended at no place", () -> x.intended(sheet, -1, -1));
            Check.throwsIndex("placesOf no colour", () -> x.placesOf(sheet, 8));
            Check.throwsIndex("writeRow of no row", () -> x.writeRow(sheet, 8));
            Check.throwsIndex("takeOut of what is not in the rack", () -> x.takeOut(sheet));
            Check.throwsIndex("rackPlace of what is not in the rack", () -> x.rackPlace(sheet));
            Check.throwsIndex("putInRack", () -> x.putInRack(sheet));
        }
        for (int place : new int[] {Shops.MIN, -1, 3, Shops.MAX}) {
            Check.throwsIndex("sheetInRack of no place, where no sheet is", () -> x.sheetInRack(place));
        }
    }

    private static void wrongInkOfSeventhPlate() {
        StarPress x = Shops.withPlates(6);
        for (int ink : Shops.NO_INKS) {
            Check.throwsArgument("addPlate of ink " + ink, () -> x.addPlate(ink));
        }
        Check.throwsState("addPlate", () -> x.addPlate(1));
    }

    private static void wrongPlaceOnFullPlate() {
        StarPress x = Shops.withStars(20, 0);
        for (int column : Shops.NO_COLUMNS) {
            Check.throwsArgument("a star in column " + column, () -> x.addStar(0, column, 0));
        }
        for (int row : Shops.NO_ROWS) {
            Check.throwsArgument("a star in row " + row, () -> x.addStar(0, 0, row));
        }
        Check.throwsState("star 21", () -> x.addStar(0, 15, 7));
    }

    private static void starThereOnFullPlate() {
        StarPress x = Shops.withStars(20, 0);
        Check.throwsState("a star that is there, as star 21", () -> x.addStar(0, 0, 0));
        Check.throwsState("another, as star 21", () -> x.addStar(0, 15, 7));
        x.removeStar(0, 3, 0);
        Check.throwsState("a star that is there", () -> x.addStar(0, 0, 0));
        Check.same("star 20", x.addStar(0, 15, 7), 20);
    }

    private static void fitOfNoPlate() {
        StarPress x = Shops.withPlates(2);
        for (int plate : new int[] {Shops.MIN, -1, 2, 6, Shops.MAX}) {
            Check.throwsIndex("fit of no plate to itself", () -> x.fit(plate, plate));
            Check.throwsIndex("fit to no plate", () -> x.fit(1, plate));
            Check.throwsIndex("fit of no plate", () -> x.fit(plate, 1));
        }
        Check.throwsArgument("fit of a plate to itself", () -> x.fit(1, 1));
    }

    private static StarPress rackedWithoutDrops() {
        StarPress x = Shops.withStars(20, 4);
        for (int times = 0; times < 3; times++) {
            x.print(0, 0);
        }
        x.putInRack(3);
        x.putInRack(0);
        return x;
    }

    private static void printOfNone() {
        StarPress x = rackedWithoutDrops();
        for (int index : new int[] {Shops.MIN, -1, 4, 8, Shops.MAX}) {
            Check.throwsIndex("no plate on a sheet in the rack", () -> x.print(index, 0));
            Check.throwsIndex("no plate on a sheet outside", () -> x.print(index, 1));
            Check.throwsIndex("a plate without drops on no sheet", () -> x.print(0, index));
            Check.throwsIndex("no plate on no sheet", () -> x.print(index, index));
        }
        Check.throwsElement("nothing was refused", x::refusalReason);
        Check.throwsElement("nothing was refused", x::refusalDetail);
    }

    private static void printInRackWithoutDrops() {
        StarPress x = rackedWithoutDrops();
        Shops.refused(x, () -> x.print(0, 0), StarPress.IN_RACK, 1);
        Shops.refused(x, () -> x.print(0, 3), StarPress.IN_RACK, 0);
        Shops.refused(x, () -> x.print(0, 1), StarPress.NO_INK, 20);
    }

    private static void insideFullRack() {
        StarPress x = rackedWithoutDrops();
        x.putInRack(1);
        for (int sheet : new int[] {0, 1, 3}) {
            Check.throwsState("a sheet in the full rack", () -> x.putInRack(sheet));
        }
        for (int sheet : new int[] {Shops.MIN, -1, 4, 8, Shops.MAX}) {
            Check.throwsIndex("no sheet into the full rack", () -> x.putInRack(sheet));
        }
        Check.throwsElement("nothing was refused", x::refusalReason);
        Shops.refused(x, () -> x.putInRack(2), StarPress.RACK_FULL, 3);
    }

    private static void wrongInkBeyondMost() {
        StarPress x = new StarPress();
        for (int times = 0; times < 4; times++) {
            x.addInk(1, 99);
        }
        x.addInk(1, 44);
        for (int drops : new int[] {Shops.MIN, -1, 0, 100, Shops.MAX}) {
            Check.throwsArgument(drops + " drops beyond 500", () -> x.addInk(1, drops));
        }
        for (int ink : Shops.NO_INKS) {
            Check.throwsArgument("ink " + ink, () -> x.addInk(ink, 99));
            Check.throwsArgument("ink " + ink + " and 100 drops", () -> x.addInk(ink, 100));
        }
        Check.throwsState("drop 501", () -> x.addInk(1, 1));
    }

    private static void malformedAndFailing() {
        StarPress x = rackedWithoutDrops();
        String[] texts = {"out 2;sheeX", "print 0>0;sheeX", "hour 0;", "out 1;out 10", "rack 0;Rack 1"};
        for (String text : texts) {
            Shops.feedAll(x, text);
            Check.throwsArgument(text, x::execute);
            Check.same("error position of " + text, x.errorPosition(), Grammar.errorPosition(text));
            Check.throwsElement("no command failed", x::failedCommand);
            Check.throwsElement("nothing was refused", x::refusalReason);
        }
    }

    private static void severalFailing() {
        StarPress x = rackedWithoutDrops();
        Shops.feedAll(x, "hour 1;print 0>3;print 0>1;out 2");
        Check.throwsUnsupported("three commands that fail", x::execute);
        Check.same("failed command", x.failedCommand(), 1);
        Check.same("reason", x.refusalReason(), StarPress.IN_RACK);
        Check.same("detail", x.refusalDetail(), 0);
        Shops.feedAll(x, "print 0>1;print 0>0");
        Check.throwsUnsupported("two refusals", x::execute);
        Check.same("failed command", x.failedCommand(), 0);
        Check.same("reason", x.refusalReason(), StarPress.NO_INK);
        Check.same("detail", x.refusalDetail(), 20);
    }
}

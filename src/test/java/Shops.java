import java.util.ArrayList;
import java.util.List;
import java.util.function.Supplier;

/** Makes the shops that tests begin with, and tells all that can be asked of a shop. */
final class Shops {
    static final int MIN = Integer.MIN_VALUE;
    static final int MAX = Integer.MAX_VALUE;
    static final int[] INKS = {StarPress.CYAN, StarPress.MAGENTA, StarPress.YELLOW};
    static final int[] NO_INKS = {MIN, -1, 0, 3, 5, 6, 7, 8, MAX};
    static final int[] NO_COLUMNS = {MIN, -1, 16, MAX};
    static final int[] NO_ROWS = {MIN, -1, 8, MAX};
    static final int[] NO_SHIFTS = {MIN, -4, 4, MAX};

    private Shops() {
    }

    static StarPress withPlates(int count) {
        StarPress x = new StarPress();
        for (int plate = 0; plate < count; plate++) {
            x.addPlate(StarPress.CYAN);
        }
        return x;
    }

    static StarPress withSheets(int count) {
        StarPress x = new StarPress();
        for (int sheet = 0; sheet < count; sheet++) {
            x.addSheet();
        }
        return x;
    }

    /** A shop with a CYAN plate of so many stars and so many sheets. */
    static StarPress withStars(int stars, int sheets) {
        StarPress x = withSheets(sheets);
        x.addPlate(StarPress.CYAN);
        addStars(x, 0, 0, stars);
        return x;
    }

    /** A shop with a plate of so many CYAN stars and a sheet that it was printed on. */
    static StarPress printed(int stars) {
        StarPress x = withStars(stars, 1);
        x.print(0, 0);
        return x;
    }

    /** Adds stars at places that are counted row by row. */
    static void addStars(StarPress x, int plate, int first, int count) {
        for (int place = first; place < first + count; place++) {
            x.addStar(plate, place % 16, place / 16);
        }
    }

    static void feedAll(StarPress x, String text) {
        for (int index = 0; index < text.length(); index++) {
            x.feed(text.charAt(index));
        }
    }

    static int executed(StarPress x, String text) {
        feedAll(x, text);
        return x.execute();
    }

    static String row(StarPress x, int sheet, int y) {
        StringBuilder row = new StringBuilder();
        int length = x.writeRow(sheet, y);
        for (int index = 0; index < length; index++) {
            row.append(x.outputCharacter(index));
        }
        return row.toString();
    }

    /** Expects that a call is refused for a reason with a detail. */
    static void refused(StarPress x, Runnable call, int reason, int detail) {
        Check.throwsUnsupported("a refused call", call);
        Check.same("reason", x.refusalReason(), reason);
        Check.same("detail", x.refusalDetail(), detail);
    }

    /** Returns what a question answers, or the name of what it throws. */
    static String answer(Supplier<Object> question) {
        try {
            return String.valueOf(question.get());
        } catch (RuntimeException e) {
            return e.getClass().getSimpleName();
        }
    }

    /**
     * Tells all that can be asked of a shop, line by line. It is made anew for each page of questions, of at most 140,
     * as what an object answers after 512 calls is free.
     */
    static List<String> told(Supplier<StarPress> maker) {
        List<String> lines = new ArrayList<>();
        StarPress first = maker.get();
        int plates = first.plateCount();
        int sheets = first.sheetCount();
        tellShop(lines, first);
        tellKept(lines, maker.get());
        for (int plate = 0; plate < plates; plate++) {
            tellPlate(lines, maker.get(), plate);
        }
        for (int sheet = 0; sheet < sheets; sheet++) {
            tellSheet(lines, maker.get(), sheet);
            tellIntended(lines, maker.get(), sheet);
        }
        return lines;
    }

    /** Returns those of the told lines that begin with none of the words. */
    static List<String> without(List<String> lines, String... words) {
        List<String> left = new ArrayList<>(lines);
        for (String word : words) {
            left.removeIf(line -> line.startsWith(word));
        }
        return left;
    }

    private static void tellShop(List<String> lines, StarPress x) {
        lines.add("plates " + x.plateCount() + ", sheets " + x.sheetCount() + ", hour " + x.hour());
        lines.add("drops " + x.drops(1) + ", " + x.drops(2) + ", " + x.drops(4));
        lines.add("consistent " + x.isConsistent());
        lines.add("changes " + x.undoCount());
        lines.add("mean wetness " + answer(x::meanWetness) + ", smeared fraction " + answer(x::smearedFraction));
        for (int place = 0; place < 3; place++) {
            int asked = place;
            lines.add("rack " + place + ": " + answer(() -> x.sheetInRack(asked)));
        }
        for (int rank = 0; rank <= x.sheetCount(); rank++) {
            int asked = rank;
            lines.add("rank " + rank + ": " + answer(() -> x.sheetByMisprints(asked)));
        }
    }

    private static void tellKept(List<String> lines, StarPress x) {
        lines.add("refusal " + answer(x::refusalReason) + ", " + answer(x::refusalDetail));
        lines.add("error position " + answer(x::errorPosition));
        lines.add("failed command " + answer(x::failedCommand));
        StringBuilder output = new StringBuilder("output ");
        for (int index = 0; index <= 16; index++) {
            int asked = index;
            output.append(answer(() -> x.outputCharacter(asked)));
        }
        lines.add(output.toString());
        lines.add("length of the input with one more " + answer(() -> x.feed('s')));
    }

    private static void tellPlate(List<String> lines, StarPress x, int plate) {
        lines.add("plate " + plate + ": ink " + x.inkOf(plate) + ", shift " + x.shiftX(plate) + ", " + x.shiftY(plate)
                + ", stars " + x.starCount(plate));
        for (int y = 0; y < 8; y++) {
            StringBuilder row = new StringBuilder("row ").append(y).append(' ');
            for (int column = 0; column < 16; column++) {
                row.append(x.hasStar(plate, column, y) ? '*' : '.');
            }
            lines.add(row.toString());
        }
    }

    private static void tellSheet(List<String> lines, StarPress x, int sheet) {
        lines.add("sheet " + sheet + ": wetness " + x.wetness(sheet) + ", smears " + x.smears(sheet) + ", misprints "
                + x.misprints(sheet) + ", dry in " + x.hoursUntilDry(sheet) + ", place "
                + answer(() -> x.rackPlace(sheet)));
        for (int y = 0; y < 8; y++) {
            StringBuilder row = new StringBuilder("row ").append(y).append(' ');
            for (int column = 0; column < 16; column++) {
                row.append(x.colour(sheet, column, y));
            }
            lines.add(row.toString());
        }
    }

    private static void tellIntended(List<String> lines, StarPress x, int sheet) {
        for (int y = 0; y < 8; y++) {
            StringBuilder row = new StringBuilder("intended row ").append(y).append(' ');
            for (int column = 0; column < 16; column++) {
                row.append(x.intended(sheet, column, y));
            }
            lines.add(row.toString());
        }
    }
}

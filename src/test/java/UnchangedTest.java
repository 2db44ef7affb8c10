import java.util.ArrayList;
import java.util.List;
import java.util.NoSuchElementException;
import java.util.function.Consumer;
import java.util.function.Function;
import java.util.function.Supplier;

/**
 * After each call that throws, nothing has changed but what its description says, and the next calls answer as if it
 * had not been made: a shop that had the call is compared with one that had not, at once and after other calls.
 */
public final class UnchangedTest {
    private static final Class<IllegalArgumentException> ARGUMENT = IllegalArgumentException.class;
    private static final Class<IllegalStateException> STATE = IllegalStateException.class;
    private static final Class<IndexOutOfBoundsException> INDEX = IndexOutOfBoundsException.class;
    private static final Class<NoSuchElementException> ELEMENT = NoSuchElementException.class;
    private static final Class<UnsupportedOperationException> REFUSED = UnsupportedOperationException.class;
    private static final Class<ArithmeticException> ARITHMETIC = ArithmeticException.class;
    private static final String BEGUN = "sheet;sh";

    private record Thrown(String name, Class<? extends RuntimeException> due, Consumer<StarPress> call) {
    }

    /** A text, what its execution throws, and what is kept then: the failed command, or else the error position. */
    private record Text(String text, Class<? extends RuntimeException> due, int kept) {
    }

    private record Refused(String name, Consumer<StarPress> call, int reason, int detail) {
    }

    public static void main(String[] args) {
        part("an empty shop", StarPress::new, inEmpty(), List.of());
        part("a used shop", UnchangedTest::used, inUsed(), refusedInUsed());
        part("a full shop", UnchangedTest::full, inFull(), refusedInFull());
        Check.part("a full buffer", UnchangedTest::fullBuffer);
        Check.finish("UnchangedTest");
    }

    private static void part(String name, Supplier<StarPress> state, List<Thrown> calls, List<Refused> refused) {
        Check.part(name, () -> {
            calls.forEach(call -> Check.fails(call.name(), call.due(), () -> call.call().accept(state.get())));
            unchangedByAll(state, calls);
            unchangedByRefused(state, refused);
            unchangedByTexts(state, texts());
        });
    }

    // Shops

    /** A shop that something of everything was done to, with changes that can be undone. */
    private static StarPress used() {
        StarPress x = Shops.withSheets(3);
        x.addPlate(StarPress.CYAN);
        x.addPlate(StarPress.YELLOW);
        Shops.addStars(x, 0, 13, 5);
        x.addStar(1, 15, 1);
        x.setShift(1, -1, 2);
        Shops.feedAll(x, "sheet!");
        Shops.answer(x::execute);
        x.print(0, 0);
        x.print(1, 0);
        x.putInRack(2);
        x.save();
        x.putInRack(0);
        x.passHours(1);
        x.print(1, 1);
        x.addInk(2, 9);
        x.fit(0, 1);
        x.addSheet();
        Shops.feedAll(x, "hour 1;rack 0");
        Shops.answer(x::execute);
        Shops.answer(() -> x.print(0, 0));
        x.writeRow(1, 3);
        x.undo();
        return x;
    }

    /** A shop with all plates, stars and sheets that it can have, a full rack, no CYAN and all MAGENTA drops. */
    private static StarPress full() {
        StarPress x = Shops.withSheets(8);
        for (int plate = 0; plate < 6; plate++) {
            x.addPlate(Shops.INKS[plate % 3]);
            Shops.addStars(x, plate, 20 * plate, 20);
        }
        for (int drops : new int[] {99, 99, 99, 99, 44}) {
            x.addInk(StarPress.MAGENTA, drops);
        }
        x.save();
        for (int sheet = 0; sheet < 3; sheet++) {
            x.print(0, sheet);
            x.putInRack(7 - sheet);
        }
        x.passHours(1);
        for (int plate = 0; plate < 6; plate++) {
            x.setShift(plate, plate - 3, 3 - plate);
        }
        return x;
    }

    // Calls that throw

    private static void add(List<Thrown> calls, String name, Class<? extends RuntimeException> due,
            Consumer<StarPress> call) {
        calls.add(new Thrown(name, due, call));
    }

    private static List<Thrown> inEmpty() {
        List<Thrown> calls = new ArrayList<>();
        addNoPlate(calls, 0, 0);
        addNoSheet(calls, 0);
        addWrongNumbers(calls);
        add(calls, "sheetByMisprints(0)", ELEMENT, x -> x.sheetByMisprints(0));
        add(calls, "sheetInRack(0)", ELEMENT, x -> x.sheetInRack(0));
        add(calls, "refusalReason()", ELEMENT, StarPress::refusalReason);
        add(calls, "refusalDetail()", ELEMENT, StarPress::refusalDetail);
        add(calls, "meanWetness()", ARITHMETIC, StarPress::meanWetness);
        add(calls, "smearedFraction()", ARITHMETIC, StarPress::smearedFraction);
        add(calls, "outputCharacter(0)", INDEX, x -> x.outputCharacter(0));
        add(calls, "errorPosition()", ELEMENT, StarPress::errorPosition);
        add(calls, "failedCommand()", ELEMENT, StarPress::failedCommand);
        add(calls, "undo()", STATE, StarPress::undo);
        add(calls, "restore()", STATE, StarPress::restore);
        return calls;
    }

    private static List<Thrown> inUsed() {
        List<Thrown> calls = new ArrayList<>();
        addNoPlate(calls, 2, 1);
        addNoSheet(calls, 3);
        addWrongNumbers(calls);
        addWrongPlaces(calls);
        add(calls, "addStar at a star", STATE, x -> x.addStar(0, 15, 0));
        add(calls, "removeStar of no star", ELEMENT, x -> x.removeStar(0, 12, 0));
        add(calls, "putInRack of a sheet inside", STATE, x -> x.putInRack(2));
        add(calls, "takeOut of a sheet outside", STATE, x -> x.takeOut(1));
        add(calls, "rackPlace of a sheet outside", ELEMENT, x -> x.rackPlace(1));
        add(calls, "sheetInRack of a free place", ELEMENT, x -> x.sheetInRack(2));
        return calls;
    }

    private static List<Thrown> inFull() {
        List<Thrown> calls = new ArrayList<>();
        addNoPlate(calls, 6, 5);
        addNoSheet(calls, 8);
        addWrongNumbers(calls);
        addWrongPlaces(calls);
        add(calls, "a seventh plate", STATE, x -> x.addPlate(1));
        add(calls, "star 21", STATE, x -> x.addStar(5, 0, 0));
        add(calls, "a ninth sheet", STATE, StarPress::addSheet);
        add(calls, "putInRack of a sheet inside", STATE, x -> x.putInRack(7));
        add(calls, "drop 501", STATE, x -> x.addInk(2, 1));
        return calls;
    }

    private static void addNoPlate(List<Thrown> calls, int none, int there) {
        add(calls, "addStar of no plate", INDEX, x -> x.addStar(none, 5, 5));
        add(calls, "removeStar of no plate", INDEX, x -> x.removeStar(none, 0, 0));
        add(calls, "setShift of no plate", INDEX, x -> x.setShift(-1, 1, 1));
        add(calls, "fit of no plate", INDEX, x -> x.fit(none, there));
        add(calls, "fit to no plate", INDEX, x -> x.fit(there, none));
        add(calls, "inkOf no plate", INDEX, x -> x.inkOf(none));
        add(calls, "starCount of no plate", INDEX, x -> x.starCount(none));
        add(calls, "hasStar of no plate", INDEX, x -> x.hasStar(none, 0, 0));
        add(calls, "shiftX of no plate", INDEX, x -> x.shiftX(none));
        add(calls, "shiftY of no plate", INDEX, x -> x.shiftY(none));
        add(calls, "matches of no plate", INDEX, x -> x.matches(none, there, 0, 0));
        add(calls, "mostMatches of no plate", INDEX, x -> x.mostMatches(there, none));
        add(calls, "mostMatchesByPairs of no plate", INDEX, x -> x.mostMatchesByPairs(none, there));
        add(calls, "bestShiftX of no plate", INDEX, x -> x.bestShiftX(there, none));
        add(calls, "bestShiftY of no plate", INDEX, x -> x.bestShiftY(none, there));
        add(calls, "print of no plate", INDEX, x -> x.print(none, 0));
    }

    private static void addNoSheet(List<Thrown> calls, int none) {
        add(calls, "print on no sheet", INDEX, x -> x.print(0, none));
        add(calls, "wouldSmear of no sheet", INDEX, x -> x.wouldSmear(none));
        add(calls, "colour of no sheet", INDEX, x -> x.colour(none, 0, 0));
        add(calls, "intended of no sheet", INDEX, x -> x.intended(none, 0, 0));
        add(calls, "placesOf no sheet", INDEX, x -> x.placesOf(none, 0));
        add(calls, "wetness of no sheet", INDEX, x -> x.wetness(none));
        add(calls, "smears of no sheet", INDEX, x -> x.smears(none));
        add(calls, "misprints of no sheet", INDEX, x -> x.misprints(none));
        add(calls, "misprintsBySets of no sheet", INDEX, x -> x.misprintsBySets(none));
        add(calls, "sheetByMisprints of no rank", ELEMENT, x -> x.sheetByMisprints(none));
        add(calls, "putInRack of no sheet", INDEX, x -> x.putInRack(none));
        add(calls, "takeOut of no sheet", INDEX, x -> x.takeOut(none));
        add(calls, "rackPlace of no sheet", INDEX, x -> x.rackPlace(none));
        add(calls, "hoursUntilDry of no sheet", INDEX, x -> x.hoursUntilDry(none));
        add(calls, "hoursUntilDryAtOnce of no sheet", INDEX, x -> x.hoursUntilDryAtOnce(none));
        add(calls, "writeRow of no sheet", INDEX, x -> x.writeRow(none, 0));
    }

    private static void addWrongNumbers(List<Thrown> calls) {
        add(calls, "addPlate of no ink", ARGUMENT, x -> x.addPlate(3));
        add(calls, "sheetInRack of no place", INDEX, x -> x.sheetInRack(3));
        add(calls, "addInk of no ink", ARGUMENT, x -> x.addInk(3, 9));
        add(calls, "addInk of 0 drops", ARGUMENT, x -> x.addInk(1, 0));
        add(calls, "addInk of 100 drops", ARGUMENT, x -> x.addInk(4, 100));
        add(calls, "drops of no ink", ARGUMENT, x -> x.drops(0));
        add(calls, "passHours(0)", ARGUMENT, x -> x.passHours(0));
        add(calls, "passHours(51)", ARGUMENT, x -> x.passHours(51));
        add(calls, "outputCharacter(16)", INDEX, x -> x.outputCharacter(16));
    }

    private static void addWrongPlaces(List<Thrown> calls) {
        add(calls, "addStar at no place", ARGUMENT, x -> x.addStar(0, 16, 0));
        add(calls, "removeStar at no place", ARGUMENT, x -> x.removeStar(0, 0, 8));
        add(calls, "setShift too far", ARGUMENT, x -> x.setShift(0, -3, 4));
        add(calls, "setShift too far", ARGUMENT, x -> x.setShift(0, -4, 3));
        add(calls, "fit to itself", ARGUMENT, x -> x.fit(1, 1));
        add(calls, "hasStar at no place", ARGUMENT, x -> x.hasStar(0, 16, 0));
        add(calls, "matches too far", ARGUMENT, x -> x.matches(0, 1, 0, 4));
        add(calls, "colour at no place", ARGUMENT, x -> x.colour(0, -1, 0));
        add(calls, "intended at no place", ARGUMENT, x -> x.intended(0, 0, 8));
        add(calls, "placesOf no colour", ARGUMENT, x -> x.placesOf(0, 8));
        add(calls, "writeRow of no row", ARGUMENT, x -> x.writeRow(0, 8));
    }

    private static List<Refused> refusedInUsed() {
        return List.of(
                new Refused("print in the rack", x -> x.print(1, 0), StarPress.IN_RACK, 1),
                new Refused("print in the rack", x -> x.print(0, 2), StarPress.IN_RACK, 0));
    }

    private static List<Refused> refusedInFull() {
        return List.of(
                new Refused("print in the rack", x -> x.print(1, 6), StarPress.IN_RACK, 1),
                new Refused("print without drops", x -> x.print(0, 0), StarPress.NO_INK, 20),
                new Refused("print without drops", x -> x.print(3, 4), StarPress.NO_INK, 20),
                new Refused("a fourth sheet in the rack", x -> x.putInRack(0), StarPress.RACK_FULL, 3));
    }

    private static List<Text> texts() {
        return List.of(
                new Text("", ARGUMENT, 0),
                new Text("hour 3;hour", ARGUMENT, 11),
                new Text("hour 50;plate k", ARGUMENT, 14),
                new Text("hour 9;shift 0+1+1*", ARGUMENT, 18),
                new Text("hour 0", REFUSED, 0),
                new Text("hour 9;hour 1;hour 51", REFUSED, 2),
                new Text("hour 7;print 9>0", REFUSED, 1),
                new Text("hour 7;star 0 16,0", REFUSED, 1),
                new Text("hour 7;shift 0+4+0", REFUSED, 1),
                new Text("hour 7;out 9;sheet", REFUSED, 1));
    }

    // What follows

    /** Calls that are made afterwards, each giving what it answered. */
    private static List<Function<StarPress, String>> following() {
        List<Function<StarPress, String>> following = new ArrayList<>();
        for (int undos = 0; undos <= 9; undos++) {
            int times = undos;
            following.add(x -> repeated(times, () -> Shops.answer(x::undo)));
        }
        following.add(x -> Shops.answer(x::restore));
        following.add(x -> Shops.answer(() -> Shops.executed(x, "eet")));
        following.add(x -> Shops.answer(() -> Shops.executed(x, "")) + Shops.answer(() -> Shops.executed(x, "hour 5")));
        following.add(x -> Shops.answer(() -> x.passHours(3)) + Shops.answer(x::undo));
        following.add(x -> Shops.answer(() -> x.addPlate(2)) + Shops.answer(x::addSheet));
        following.add(x -> Shops.answer(() -> x.addStar(0, 9, 7)) + Shops.answer(() -> x.print(1, 1)));
        following.add(x -> Shops.answer(() -> x.fit(1, 0)) + Shops.answer(() -> x.takeOut(2)));
        following.add(x -> Shops.answer(x::save) + Shops.answer(() -> x.passHours(2)) + Shops.answer(x::restore));
        following.add(x -> repeated(9, () -> Shops.answer(() -> x.passHours(1)))
                + repeated(9, () -> Shops.answer(x::undo)));
        return following;
    }

    private static String repeated(int times, Supplier<String> call) {
        StringBuilder answers = new StringBuilder();
        for (int time = 0; time < times; time++) {
            answers.append(call.get()).append(' ');
        }
        return answers.toString();
    }

    private static List<String> toldAfter(Supplier<StarPress> state, Function<StarPress, String> next) {
        List<String> lines = new ArrayList<>();
        lines.add("answers " + next.apply(state.get()));
        lines.addAll(Shops.told(() -> {
            StarPress x = state.get();
            next.apply(x);
            return x;
        }));
        return lines;
    }

    // Comparisons

    private static StarPress after(Supplier<StarPress> state, String begun, Consumer<StarPress> call) {
        StarPress x = state.get();
        Shops.feedAll(x, begun);
        Shops.answer(() -> {
            call.accept(x);
            return "nothing";
        });
        return x;
    }

    private static List<List<String>> allToldAfter(Supplier<StarPress> state) {
        List<List<String>> all = new ArrayList<>();
        following().forEach(next -> all.add(toldAfter(state, next)));
        return all;
    }

    private static void same(String what, List<List<String>> got, List<List<String>> due, String... kept) {
        for (int next = 0; next < due.size(); next++) {
            Check.sameLines(what + ", then calls " + next, Shops.without(got.get(next), kept),
                    Shops.without(due.get(next), kept));
        }
    }

    private static void unchangedByAll(Supplier<StarPress> state, List<Thrown> calls) {
        List<List<String>> due = allToldAfter(() -> after(state, BEGUN, x -> { }));
        for (Thrown thrown : calls) {
            same(thrown.name(), allToldAfter(() -> after(state, BEGUN, thrown.call())), due);
        }
    }

    private static void unchangedByRefused(Supplier<StarPress> state, List<Refused> calls) {
        List<List<String>> due = allToldAfter(() -> after(state, BEGUN, x -> { }));
        for (Refused refused : calls) {
            StarPress x = state.get();
            Shops.refused(x, () -> refused.call().accept(x), refused.reason(), refused.detail());
            same(refused.name(), allToldAfter(() -> after(state, BEGUN, refused.call())), due, "refusal");
        }
    }

    /** The refusal is compared, too: none of these texts has a command that is refused. */
    private static void unchangedByTexts(Supplier<StarPress> state, List<Text> texts) {
        List<List<String>> due = allToldAfter(() -> after(state, "", x -> { }));
        for (Text text : texts) {
            StarPress x = state.get();
            Shops.feedAll(x, text.text());
            Check.fails(text.text(), text.due(), x::execute);
            boolean malformed = text.due() == ARGUMENT;
            Check.same("what is kept", malformed ? x.errorPosition() : x.failedCommand(), text.kept());
            same("'" + text.text() + "'", allToldAfter(() -> after(state, text.text(), StarPress::execute)), due,
                    malformed ? "error position" : "failed command");
        }
    }

    private static void fullBuffer() {
        String sixty = "hour 1;hour 1;hour 1;hour 1;hour 1;hour 1;hour 1;hour 1;hour";
        Supplier<StarPress> state = () -> after(UnchangedTest::used, sixty, x -> { });
        Check.throwsState("character 61", () -> state.get().feed(' '));
        same("character 61", allToldAfter(() -> after(UnchangedTest::used, sixty, x -> x.feed(' '))),
                allToldAfter(state));
        StarPress x = after(UnchangedTest::used, sixty, y -> y.feed(' '));
        Check.throwsArgument("the 60 characters", x::execute);
        Check.same("error position", x.errorPosition(), 60);
    }
}

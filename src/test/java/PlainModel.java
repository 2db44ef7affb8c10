import java.util.ArrayDeque;
import java.util.ArrayList;
import java.util.Deque;
import java.util.HashMap;
import java.util.List;
import java.util.Map;
import java.util.NoSuchElementException;
import java.util.TreeSet;
import java.util.function.IntSupplier;
import java.util.regex.Matcher;
import java.util.regex.Pattern;

/** The document's words once more, place by place and without any regard to cost, to compare the class with. */
public final class PlainModel {
    private static final String COMMAND = "(?:plate [cmy]|star [0-9] [0-9]{1,2},[0-9]|shift [0-9](?:[+-][0-9]){2}"
            + "|sheet|print [0-9]>[0-9]|rack [0-9]|out [0-9]|hour [0-9]{1,2})";
    private static final Pattern TEXT = Pattern.compile(COMMAND + "(?:;" + COMMAND + ")*");
    private static final int NOT_KEPT = -1;

    private static final class Plate {
        int ink;
        int dx;
        int dy;
        TreeSet<Integer> stars = new TreeSet<>();

        Plate copy() {
            Plate copy = new Plate();
            copy.ink = ink;
            copy.dx = dx;
            copy.dy = dy;
            copy.stars.addAll(stars);
            return copy;
        }
    }

    private static final class Sheet {
        int[][] colours = new int[16][8];
        int[][] intended = new int[16][8];
        int wetness;
        int smears;

        Sheet copy() {
            Sheet copy = new Sheet();
            for (int x = 0; x < 16; x++) {
                copy.colours[x] = colours[x].clone();
                copy.intended[x] = intended[x].clone();
            }
            copy.wetness = wetness;
            copy.smears = smears;
            return copy;
        }
    }

    private static final class State {
        List<Plate> plates = new ArrayList<>();
        List<Sheet> sheets = new ArrayList<>();
        Integer[] rack = new Integer[3];
        Map<Integer, Integer> drops = new HashMap<>(Map.of(1, 60, 2, 60, 4, 60));
        int hour;

        State copy() {
            State copy = new State();
            plates.forEach(plate -> copy.plates.add(plate.copy()));
            sheets.forEach(sheet -> copy.sheets.add(sheet.copy()));
            copy.rack = rack.clone();
            copy.drops.putAll(drops);
            copy.hour = hour;
            return copy;
        }
    }

    private State state = new State();
    private State saved;
    private final Deque<State> befores = new ArrayDeque<>();
    private boolean executing;
    private String buffer = "";
    private String output = "";
    private int lastError = NOT_KEPT;
    private int lastFailed = NOT_KEPT;
    private int reason = NOT_KEPT;
    private int detail;

    private int change(IntSupplier action) {
        if (executing) {
            return action.getAsInt();
        }
        State before = state.copy();
        try {
            int answer = action.getAsInt();
            befores.addLast(before);
            if (befores.size() > 8) {
                befores.removeFirst();
            }
            return answer;
        } catch (RuntimeException e) {
            state = before;
            throw e;
        }
    }

    private Plate plate(int index) {
        if (index < 0 || index >= state.plates.size()) {
            throw new IndexOutOfBoundsException();
        }
        return state.plates.get(index);
    }

    private Sheet sheet(int index) {
        if (index < 0 || index >= state.sheets.size()) {
            throw new IndexOutOfBoundsException();
        }
        return state.sheets.get(index);
    }

    private static void needArgument(boolean good) {
        if (!good) {
            throw new IllegalArgumentException();
        }
    }

    private static void needState(boolean good) {
        if (!good) {
            throw new IllegalStateException();
        }
    }

    private static void needElement(boolean good) {
        if (!good) {
            throw new NoSuchElementException();
        }
    }

    private static boolean onSheet(int x, int y) {
        return 0 <= x && x <= 15 && 0 <= y && y <= 7;
    }

    private static boolean near(int d) {
        return -3 <= d && d <= 3;
    }

    private static boolean ink(int ink) {
        return ink == 1 || ink == 2 || ink == 4;
    }

    private RuntimeException refuse(int newReason, int newDetail) {
        reason = newReason;
        detail = newDetail;
        return new UnsupportedOperationException();
    }

    public int addPlate(int ink) {
        return change(() -> {
            needArgument(ink(ink));
            needState(state.plates.size() < 6);
            Plate plate = new Plate();
            plate.ink = ink;
            state.plates.add(plate);
            return state.plates.size() - 1;
        });
    }

    public int addStar(int plate, int x, int y) {
        return change(() -> {
            TreeSet<Integer> stars = plate(plate).stars;
            needArgument(onSheet(x, y));
            needState(!stars.contains(100 * x + y) && stars.size() < 20);
            stars.add(100 * x + y);
            return stars.size();
        });
    }

    public int removeStar(int plate, int x, int y) {
        return change(() -> {
            TreeSet<Integer> stars = plate(plate).stars;
            needArgument(onSheet(x, y));
            needElement(stars.remove(100 * x + y));
            return stars.size();
        });
    }

    private static int beside(Plate plate) {
        int count = 0;
        for (int star : plate.stars) {
            count += onSheet(star / 100 + plate.dx, star % 100 + plate.dy) ? 0 : 1;
        }
        return count;
    }

    public int setShift(int plate, int dx, int dy) {
        return change(() -> {
            Plate changed = plate(plate);
            needArgument(near(dx) && near(dy));
            changed.dx = dx;
            changed.dy = dy;
            return beside(changed);
        });
    }

    private static int matches(Plate first, Plate second, int dx, int dy) {
        int count = 0;
        for (int star : first.stars) {
            int x = star / 100 + dx;
            int y = star % 100 + dy;
            count += onSheet(x, y) && second.stars.contains(100 * x + y) ? 1 : 0;
        }
        return count;
    }

    /** Returns dx and dy of the best shift: every shift is compared with every other. */
    private static int[] best(Plate first, Plate second) {
        for (int dx = -3; dx <= 3; dx++) {
            for (int dy = -3; dy <= 3; dy++) {
                if (isBest(first, second, dx, dy)) {
                    return new int[] {dx, dy};
                }
            }
        }
        throw new AssertionError("there is a best shift");
    }

    private static boolean isBest(Plate first, Plate second, int dx, int dy) {
        int found = matches(first, second, dx, dy);
        for (int ox = -3; ox <= 3; ox++) {
            for (int oy = -3; oy <= 3; oy++) {
                int[] mine = {-found, Math.abs(dx) + Math.abs(dy), dx, dy};
                int[] others = {-matches(first, second, ox, oy), Math.abs(ox) + Math.abs(oy), ox, oy};
                if (java.util.Arrays.compare(others, mine) < 0) {
                    return false;
                }
            }
        }
        return true;
    }

    public int fit(int plate, int other) {
        return change(() -> {
            Plate first = plate(plate);
            Plate second = plate(other);
            needArgument(plate != other);
            int[] shift = best(first, second);
            first.dx = shift[0];
            first.dy = shift[1];
            return matches(first, second, shift[0], shift[1]);
        });
    }

    public int plateCount() {
        return state.plates.size();
    }

    public int inkOf(int plate) {
        return plate(plate).ink;
    }

    public int starCount(int plate) {
        return plate(plate).stars.size();
    }

    public boolean hasStar(int plate, int x, int y) {
        Plate asked = plate(plate);
        needArgument(onSheet(x, y));
        return asked.stars.contains(100 * x + y);
    }

    public int shiftX(int plate) {
        return plate(plate).dx;
    }

    public int shiftY(int plate) {
        return plate(plate).dy;
    }

    public int matches(int plate, int other, int dx, int dy) {
        Plate first = plate(plate);
        Plate second = plate(other);
        needArgument(near(dx) && near(dy));
        return matches(first, second, dx, dy);
    }

    public int mostMatches(int plate, int other) {
        int[] shift = best(plate(plate), plate(other));
        return matches(plate(plate), plate(other), shift[0], shift[1]);
    }

    public int mostMatchesByPairs(int plate, int other) {
        return mostMatches(plate, other);
    }

    public int bestShiftX(int plate, int other) {
        return best(plate(plate), plate(other))[0];
    }

    public int bestShiftY(int plate, int other) {
        return best(plate(plate), plate(other))[1];
    }

    public int addSheet() {
        return change(() -> {
            needState(state.sheets.size() < 8);
            state.sheets.add(new Sheet());
            return state.sheets.size() - 1;
        });
    }

    public int print(int plate, int sheet) {
        return change(() -> {
            Plate used = plate(plate);
            Sheet target = sheet(sheet);
            int place = placeOf(sheet);
            if (place >= 0) {
                throw refuse(1, place);
            }
            int missing = used.stars.size() - state.drops.get(used.ink);
            if (missing > 0) {
                throw refuse(2, missing);
            }
            if (target.wetness > 0) {
                smear(target);
            }
            for (int star : used.stars) {
                int x = star / 100;
                int y = star % 100;
                target.intended[x][y] |= used.ink;
                if (onSheet(x + used.dx, y + used.dy)) {
                    target.colours[x + used.dx][y + used.dy] |= used.ink;
                }
            }
            state.drops.merge(used.ink, -used.stars.size(), Integer::sum);
            target.wetness = (int) Math.ceil(used.stars.size() / 4.0);
            return beside(used);
        });
    }

    private static void smear(Sheet sheet) {
        int[][] before = sheet.copy().colours;
        for (int x = 1; x <= 15; x++) {
            for (int y = 0; y <= 7; y++) {
                sheet.colours[x][y] = before[x][y] | before[x - 1][y];
            }
        }
        sheet.smears++;
    }

    public boolean wouldSmear(int sheet) {
        return sheet(sheet).wetness > 0;
    }

    public int sheetCount() {
        return state.sheets.size();
    }

    public int colour(int sheet, int x, int y) {
        Sheet asked = sheet(sheet);
        needArgument(onSheet(x, y));
        return asked.colours[x][y];
    }

    public int intended(int sheet, int x, int y) {
        Sheet asked = sheet(sheet);
        needArgument(onSheet(x, y));
        return asked.intended[x][y];
    }

    public int placesOf(int sheet, int colour) {
        Sheet asked = sheet(sheet);
        needArgument(0 <= colour && colour <= 7);
        int count = 0;
        for (int place = 0; place < 128; place++) {
            count += asked.colours[place / 8][place % 8] == colour ? 1 : 0;
        }
        return count;
    }

    public int wetness(int sheet) {
        return sheet(sheet).wetness;
    }

    public int smears(int sheet) {
        return sheet(sheet).smears;
    }

    public int misprints(int sheet) {
        Sheet asked = sheet(sheet);
        int count = 0;
        for (int place = 0; place < 128; place++) {
            count += asked.colours[place / 8][place % 8] == asked.intended[place / 8][place % 8] ? 0 : 1;
        }
        return count;
    }

    public int misprintsBySets(int sheet) {
        return misprints(sheet);
    }

    public int sheetByMisprints(int rank) {
        List<Integer> order = new ArrayList<>();
        for (int sheet = 0; sheet < state.sheets.size(); sheet++) {
            order.add(sheet);
        }
        // The sort is stable, so that the smallest index comes first of several.
        order.sort((a, b) -> Integer.compare(misprints(a), misprints(b)));
        needElement(rank >= 0 && rank < order.size());
        return order.get(rank);
    }

    private int placeOf(int sheet) {
        for (int place = 0; place < 3; place++) {
            if (state.rack[place] != null && state.rack[place] == sheet) {
                return place;
            }
        }
        return -1;
    }

    public int putInRack(int sheet) {
        return change(() -> {
            sheet(sheet);
            needState(placeOf(sheet) < 0);
            for (int place = 0; place < 3; place++) {
                if (state.rack[place] == null) {
                    state.rack[place] = sheet;
                    return place;
                }
            }
            throw refuse(3, 3);
        });
    }

    public int takeOut(int sheet) {
        return change(() -> {
            sheet(sheet);
            int place = placeOf(sheet);
            needState(place >= 0);
            state.rack[place] = null;
            return place;
        });
    }

    public int rackPlace(int sheet) {
        sheet(sheet);
        needElement(placeOf(sheet) >= 0);
        return placeOf(sheet);
    }

    public int sheetInRack(int place) {
        if (place < 0 || place > 2) {
            throw new IndexOutOfBoundsException();
        }
        needElement(state.rack[place] != null);
        return state.rack[place];
    }

    public int addInk(int ink, int drops) {
        return change(() -> {
            needArgument(ink(ink) && 1 <= drops && drops <= 99);
            needState(state.drops.get(ink) + drops <= 500);
            return state.drops.merge(ink, drops, Integer::sum);
        });
    }

    public int drops(int ink) {
        needArgument(ink(ink));
        return state.drops.get(ink);
    }

    public int passHours(int hours) {
        return change(() -> {
            needArgument(1 <= hours && hours <= 50);
            int became = 0;
            for (int i = 0; i < hours; i++) {
                became += passHour();
            }
            return became;
        });
    }

    private int passHour() {
        int became = 0;
        for (int index = 0; index < state.sheets.size(); index++) {
            Sheet sheet = sheet(index);
            int loss = placeOf(index) >= 0 ? 2 : state.hour % 2 == 0 ? 1 : 0;
            int left = Math.max(0, sheet.wetness - loss);
            became += sheet.wetness > 0 && left == 0 ? 1 : 0;
            sheet.wetness = left;
        }
        state.hour++;
        return became;
    }

    public int hour() {
        return state.hour;
    }

    public int hoursUntilDry(int sheet) {
        sheet(sheet);
        State before = state.copy();
        int count = 0;
        while (sheet(sheet).wetness > 0) {
            passHour();
            count++;
        }
        state = before;
        return count;
    }

    public int hoursUntilDryAtOnce(int sheet) {
        return hoursUntilDry(sheet);
    }

    public int refusalReason() {
        needElement(reason != NOT_KEPT);
        return reason;
    }

    public int refusalDetail() {
        needElement(reason != NOT_KEPT);
        return detail;
    }

    public double meanWetness() {
        if (state.sheets.isEmpty()) {
            throw new ArithmeticException();
        }
        return (double) state.sheets.stream().mapToInt(sheet -> sheet.wetness).sum() / (double) state.sheets.size();
    }

    public float smearedFraction() {
        if (state.sheets.isEmpty()) {
            throw new ArithmeticException();
        }
        return (float) state.sheets.stream().filter(sheet -> sheet.smears > 0).count() / (float) state.sheets.size();
    }

    public int writeRow(int sheet, int y) {
        Sheet written = sheet(sheet);
        needArgument(0 <= y && y <= 7);
        StringBuilder row = new StringBuilder();
        for (int x = 0; x < 16; x++) {
            row.append(".1234567".charAt(written.colours[x][y]));
        }
        output = row.toString();
        return 16;
    }

    public char outputCharacter(int index) {
        if (index < 0 || index >= output.length()) {
            throw new IndexOutOfBoundsException();
        }
        return output.charAt(index);
    }

    public boolean isConsistent() {
        return true;
    }

    public int feed(char character) {
        needState(buffer.length() < 60);
        buffer += character;
        return buffer.length();
    }

    public int execute() {
        String text = buffer;
        buffer = "";
        if (!TEXT.matcher(text).matches()) {
            lastError = errorIn(text);
            throw new IllegalArgumentException();
        }
        String[] commands = text.split(";");
        return change(() -> {
            executing = true;
            int command = 0;
            try {
                for (; command < commands.length; command++) {
                    run(commands[command]);
                }
            } catch (RuntimeException e) {
                lastFailed = command;
                throw new UnsupportedOperationException(e);
            } finally {
                executing = false;
            }
            return commands.length;
        });
    }

    private static int errorIn(String text) {
        for (int end = 1; end <= text.length(); end++) {
            Matcher matcher = TEXT.matcher(text.substring(0, end));
            if (!matcher.matches() && !matcher.hitEnd()) {
                return end - 1;
            }
        }
        return text.length();
    }

    private void run(String command) {
        String[] words = command.split("[ ,>]");
        switch (words[0]) {
            case "plate" -> addPlate(words[1].equals("c") ? 1 : words[1].equals("m") ? 2 : 4);
            case "star" -> addStar(number(words[1]), number(words[2]), number(words[3]));
            case "shift" -> setShift(number(words[1].substring(0, 1)), number(words[1].substring(1, 3)),
                    number(words[1].substring(3)));
            case "sheet" -> addSheet();
            case "print" -> print(number(words[1]), number(words[2]));
            case "rack" -> putInRack(number(words[1]));
            case "out" -> takeOut(number(words[1]));
            case "hour" -> passHours(number(words[1]));
            default -> throw new AssertionError(command);
        }
    }

    private static int number(String word) {
        return Integer.parseInt(word);
    }

    public int errorPosition() {
        needElement(lastError != NOT_KEPT);
        return lastError;
    }

    public int failedCommand() {
        needElement(lastFailed != NOT_KEPT);
        return lastFailed;
    }

    public int undo() {
        needState(!befores.isEmpty());
        state = befores.removeLast();
        return befores.size();
    }

    public int undoCount() {
        return befores.size();
    }

    public int save() {
        saved = state.copy();
        return state.sheets.size();
    }

    public int restore() {
        needState(saved != null);
        state = saved.copy();
        befores.clear();
        return state.sheets.size();
    }
}

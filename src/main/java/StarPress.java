import java.util.Arrays;
import java.util.NoSuchElementException;

/** A shop that prints stars on sheets. */
public final class StarPress {
    public static final int CYAN = 1;
    public static final int MAGENTA = 2;
    public static final int YELLOW = 4;
    public static final int IN_RACK = 1;
    public static final int NO_INK = 2;
    public static final int RACK_FULL = 3;

    private static final int COLUMNS = 16;
    private static final int ROWS = 8;
    private static final int WHOLE_ROW = (1 << COLUMNS) - 1;
    private static final int INKS = 3;
    private static final int COLOURS = 8;
    private static final int MOST_PLATES = 6;
    private static final int MOST_STARS = 20;
    private static final int MOST_SHIFT = 3;
    private static final int SHIFTS = 2 * MOST_SHIFT + 1;
    private static final int MOST_SHEETS = 8;
    private static final int STARS_PER_WETNESS = 4;
    private static final int RACK_PLACES = 3;
    private static final int FIRST_DROPS = 60;
    private static final int MOST_DROPS = 500;
    private static final int MOST_DROPS_AT_ONCE = 99;
    private static final int MOST_HOURS_AT_ONCE = 50;
    private static final int MOST_CHANGES = 8;
    private static final int MOST_INPUT = 60;

    private static final int NONE = -1;

    // The answer of a change is never negative, so these can stand in its place when it is not made.
    private static final int NO_INDEX = -1;
    private static final int BAD_ARGUMENT = -2;
    private static final int BAD_STATE = -3;
    private static final int NO_ELEMENT = -4;
    private static final int REFUSED = -5;

    private final Shop shop = new Shop();
    private final Shop saved = new Shop();
    private final History history = new History();
    private final Fitting fitting = new Fitting();
    private final Refusal refusal = new Refusal();
    private final Input input = new Input();
    private final char[] output = new char[COLUMNS];
    private final int[] misprintCounts = new int[MOST_SHEETS];
    private int outputLength = 0;
    private int lastErrorPosition = NONE;
    private int lastFailedCommand = NONE;
    private boolean isSaved = false;

    public StarPress() {
    }

    // Plates

    public int addPlate(int ink) throws IllegalArgumentException, IllegalStateException {
        history.prepare(shop);
        return settle(shop.newPlate(ink));
    }

    public int addStar(int plate, int x, int y)
            throws IndexOutOfBoundsException, IllegalArgumentException, IllegalStateException {
        history.prepare(shop);
        return settle(shop.newStar(plate, x, y));
    }

    public int removeStar(int plate, int x, int y)
            throws IndexOutOfBoundsException, IllegalArgumentException, NoSuchElementException {
        history.prepare(shop);
        return settle(shop.dropStar(plate, x, y));
    }

    public int setShift(int plate, int dx, int dy) throws IndexOutOfBoundsException, IllegalArgumentException {
        history.prepare(shop);
        return settle(shop.shiftPlate(plate, dx, dy));
    }

    public int fit(int plate, int other) throws IndexOutOfBoundsException, IllegalArgumentException {
        history.prepare(shop);
        return settle(shop.fitPlate(plate, other, fitting));
    }

    public int plateCount() {
        return shop.plateTotal;
    }

    public int inkOf(int plate) throws IndexOutOfBoundsException {
        return plateAt(plate).ink;
    }

    public int starCount(int plate) throws IndexOutOfBoundsException {
        return plateAt(plate).countStars();
    }

    public boolean hasStar(int plate, int x, int y) throws IndexOutOfBoundsException, IllegalArgumentException {
        Plate asked = plateAt(plate);
        requirePlace(x, y);
        return asked.isStarAt(x, y);
    }

    public int shiftX(int plate) throws IndexOutOfBoundsException {
        return plateAt(plate).dx;
    }

    public int shiftY(int plate) throws IndexOutOfBoundsException {
        return plateAt(plate).dy;
    }

    public int matches(int plate, int other, int dx, int dy)
            throws IndexOutOfBoundsException, IllegalArgumentException {
        Plate first = plateAt(plate);
        Plate second = plateAt(other);
        if (!isShift(dx, dy)) {
            throw new IllegalArgumentException("a shift is from -3 to 3");
        }
        return first.countMatches(second, dx, dy);
    }

    public int mostMatches(int plate, int other) throws IndexOutOfBoundsException {
        fitting.tryAllShifts(plateAt(plate), plateAt(other));
        return fitting.most;
    }

    public int mostMatchesByPairs(int plate, int other) throws IndexOutOfBoundsException {
        return fitting.countPairs(plateAt(plate), plateAt(other));
    }

    public int bestShiftX(int plate, int other) throws IndexOutOfBoundsException {
        fitting.tryAllShifts(plateAt(plate), plateAt(other));
        return fitting.bestX;
    }

    public int bestShiftY(int plate, int other) throws IndexOutOfBoundsException {
        fitting.tryAllShifts(plateAt(plate), plateAt(other));
        return fitting.bestY;
    }

    // Sheets

    public int addSheet() throws IllegalStateException {
        history.prepare(shop);
        return settle(shop.newSheet());
    }

    public int print(int plate, int sheet) throws IndexOutOfBoundsException, UnsupportedOperationException {
        history.prepare(shop);
        return settle(shop.printPlate(plate, sheet, refusal));
    }

    public boolean wouldSmear(int sheet) throws IndexOutOfBoundsException {
        return sheetAt(sheet).isWet();
    }

    public int sheetCount() {
        return shop.sheetTotal;
    }

    public int colour(int sheet, int x, int y) throws IndexOutOfBoundsException, IllegalArgumentException {
        Sheet asked = sheetAt(sheet);
        requirePlace(x, y);
        return asked.colourAt(x, y);
    }

    public int intended(int sheet, int x, int y) throws IndexOutOfBoundsException, IllegalArgumentException {
        Sheet asked = sheetAt(sheet);
        requirePlace(x, y);
        return asked.meantAt(x, y);
    }

    public int placesOf(int sheet, int colour) throws IndexOutOfBoundsException, IllegalArgumentException {
        Sheet asked = sheetAt(sheet);
        if (colour < 0 || colour >= COLOURS) {
            throw new IllegalArgumentException("a colour is from 0 to 7");
        }
        return asked.countPlaces(colour);
    }

    public int wetness(int sheet) throws IndexOutOfBoundsException {
        return sheetAt(sheet).wet;
    }

    public int smears(int sheet) throws IndexOutOfBoundsException {
        return sheetAt(sheet).smearTotal;
    }

    public int misprints(int sheet) throws IndexOutOfBoundsException {
        return sheetAt(sheet).countMisprints();
    }

    public int misprintsBySets(int sheet) throws IndexOutOfBoundsException {
        return sheetAt(sheet).countMisprintsBySets();
    }

    public int sheetByMisprints(int rank) throws NoSuchElementException {
        for (int sheet = 0; sheet < shop.sheetTotal; sheet++) {
            misprintCounts[sheet] = shop.sheets[sheet].countMisprints();
        }
        for (int sheet = 0; sheet < shop.sheetTotal; sheet++) {
            if (rankOf(sheet) == rank) {
                return sheet;
            }
        }
        throw new NoSuchElementException("there is no such rank");
    }

    // Rack, ink and time

    public int putInRack(int sheet)
            throws IndexOutOfBoundsException, IllegalStateException, UnsupportedOperationException {
        history.prepare(shop);
        return settle(shop.rackSheet(sheet, refusal));
    }

    public int takeOut(int sheet) throws IndexOutOfBoundsException, IllegalStateException {
        history.prepare(shop);
        return settle(shop.unrackSheet(sheet));
    }

    public int rackPlace(int sheet) throws IndexOutOfBoundsException, NoSuchElementException {
        Sheet asked = sheetAt(sheet);
        if (!asked.isInRack()) {
            throw new NoSuchElementException("the sheet is not in the rack");
        }
        return asked.place;
    }

    public int sheetInRack(int place) throws IndexOutOfBoundsException, NoSuchElementException {
        if (place < 0 || place >= RACK_PLACES) {
            throw new IndexOutOfBoundsException("there is no such place in the rack");
        }
        int sheet = shop.sheetAtPlace(place);
        if (sheet == NONE) {
            throw new NoSuchElementException("the place is free");
        }
        return sheet;
    }

    public int addInk(int ink, int drops) throws IllegalArgumentException, IllegalStateException {
        history.prepare(shop);
        return settle(shop.refill(ink, drops));
    }

    public int drops(int ink) throws IllegalArgumentException {
        if (!isInk(ink)) {
            throw new IllegalArgumentException("there is no such ink");
        }
        return shop.inkDrops[inkIndex(ink)];
    }

    public int passHours(int hours) throws IllegalArgumentException {
        history.prepare(shop);
        return settle(shop.letHoursPass(hours));
    }

    public int hour() {
        return shop.hours;
    }

    public int hoursUntilDry(int sheet) throws IndexOutOfBoundsException {
        return sheetAt(sheet).countHoursUntilDry(shop.hours);
    }

    public int hoursUntilDryAtOnce(int sheet) throws IndexOutOfBoundsException {
        return sheetAt(sheet).computeHoursUntilDry(shop.hours);
    }

    // Refusals, statistics and output

    public int refusalReason() throws NoSuchElementException {
        requireRefusal();
        return refusal.reason;
    }

    public int refusalDetail() throws NoSuchElementException {
        requireRefusal();
        return refusal.detail;
    }

    public double meanWetness() throws ArithmeticException {
        requireSheets();
        int sum = 0;
        for (int sheet = 0; sheet < shop.sheetTotal; sheet++) {
            sum += shop.sheets[sheet].wet;
        }
        return (double) sum / (double) shop.sheetTotal;
    }

    public float smearedFraction() throws ArithmeticException {
        requireSheets();
        int smeared = 0;
        for (int sheet = 0; sheet < shop.sheetTotal; sheet++) {
            if (shop.sheets[sheet].smearTotal > 0) {
                smeared++;
            }
        }
        return (float) smeared / (float) shop.sheetTotal;
    }

    public int writeRow(int sheet, int y) throws IndexOutOfBoundsException, IllegalArgumentException {
        Sheet written = sheetAt(sheet);
        requirePlace(0, y);
        for (int x = 0; x < COLUMNS; x++) {
            int colour = written.colourAt(x, y);
            output[x] = colour == 0 ? '.' : (char) ('0' + colour);
        }
        outputLength = COLUMNS;
        return outputLength;
    }

    public char outputCharacter(int index) throws IndexOutOfBoundsException {
        if (index < 0 || index >= outputLength) {
            throw new IndexOutOfBoundsException("the output has no such character");
        }
        return output[index];
    }

    public boolean isConsistent() {
        return platesAreConsistent() && sheetsAreConsistent();
    }

    // Commands, undo and saved state

    public int feed(char character) throws IllegalStateException {
        if (input.isFull()) {
            throw new IllegalStateException("the input buffer is full");
        }
        return input.append(character);
    }

    public int execute() throws IllegalArgumentException, UnsupportedOperationException {
        int commands = input.countCommands();
        if (commands == NONE) {
            lastErrorPosition = input.position;
            input.clear();
            throw new IllegalArgumentException("the text is malformed");
        }
        history.prepare(shop);
        int failed = runCommands(commands);
        input.clear();
        if (failed != NONE) {
            shop.copyFrom(history.prepared());
            lastFailedCommand = failed;
            throw new UnsupportedOperationException("a command failed");
        }
        history.keep();
        return commands;
    }

    public int errorPosition() throws NoSuchElementException {
        if (lastErrorPosition == NONE) {
            throw new NoSuchElementException("no error position was kept");
        }
        return lastErrorPosition;
    }

    public int failedCommand() throws NoSuchElementException {
        if (lastFailedCommand == NONE) {
            throw new NoSuchElementException("no failed command was kept");
        }
        return lastFailedCommand;
    }

    public int undo() throws IllegalStateException {
        if (history.count == 0) {
            throw new IllegalStateException("no change can be undone");
        }
        shop.copyFrom(history.takeLatest());
        return history.count;
    }

    public int undoCount() {
        return history.count;
    }

    public int save() {
        saved.copyFrom(shop);
        isSaved = true;
        return shop.sheetTotal;
    }

    public int restore() throws IllegalStateException {
        if (!isSaved) {
            throw new IllegalStateException("nothing was saved");
        }
        shop.copyFrom(saved);
        history.clear();
        return shop.sheetTotal;
    }

    /** Ends a change that was prepared: keeps it and passes its answer on, or throws for its fault. */
    private int settle(int answer) {
        throwForFault(answer);
        history.keep();
        return answer;
    }

    private static void throwForFault(int answer) {
        switch (answer) {
            case NO_INDEX:
                throw new IndexOutOfBoundsException("there is no such index");
            case BAD_ARGUMENT:
                throw new IllegalArgumentException("an argument is out of its bounds");
            case BAD_STATE:
                throw new IllegalStateException("the state does not allow it");
            case NO_ELEMENT:
                throw new NoSuchElementException("there is nothing to remove");
            case REFUSED:
                throw new UnsupportedOperationException("it is refused");
            default:
                break;
        }
    }

    private Plate plateAt(int plate) {
        if (!shop.isPlate(plate)) {
            throw new IndexOutOfBoundsException("there is no such plate");
        }
        return shop.plates[plate];
    }

    private Sheet sheetAt(int sheet) {
        if (!shop.isSheet(sheet)) {
            throw new IndexOutOfBoundsException("there is no such sheet");
        }
        return shop.sheets[sheet];
    }

    private static void requirePlace(int x, int y) {
        if (!isPlace(x, y)) {
            throw new IllegalArgumentException("there is no such place");
        }
    }

    private void requireRefusal() {
        if (refusal.reason == NONE) {
            throw new NoSuchElementException("nothing was refused");
        }
    }

    private void requireSheets() {
        if (shop.sheetTotal == 0) {
            throw new ArithmeticException("there are no sheets");
        }
    }

    private static boolean isPlace(int x, int y) {
        return x >= 0 && x < COLUMNS && y >= 0 && y < ROWS;
    }

    private static boolean isShift(int dx, int dy) {
        return dx >= -MOST_SHIFT && dx <= MOST_SHIFT && dy >= -MOST_SHIFT && dy <= MOST_SHIFT;
    }

    private static boolean isInk(int ink) {
        return ink == CYAN || ink == MAGENTA || ink == YELLOW;
    }

    /** Returns 0, 1 or 2 for CYAN, MAGENTA or YELLOW. */
    private static int inkIndex(int ink) {
        return ink / 2;
    }

    /** Returns how many sheets come before this one by the misprints that were counted last. */
    private int rankOf(int sheet) {
        int before = 0;
        for (int other = 0; other < shop.sheetTotal; other++) {
            int difference = misprintCounts[other] - misprintCounts[sheet];
            if (difference < 0 || difference == 0 && other < sheet) {
                before++;
            }
        }
        return before;
    }

    private boolean platesAreConsistent() {
        for (int first = 0; first < shop.plateTotal; first++) {
            for (int second = 0; second < shop.plateTotal; second++) {
                fitting.tryAllShifts(shop.plates[first], shop.plates[second]);
                if (fitting.most != fitting.countPairs(shop.plates[first], shop.plates[second])) {
                    return false;
                }
            }
        }
        return true;
    }

    private boolean sheetsAreConsistent() {
        for (int index = 0; index < shop.sheetTotal; index++) {
            Sheet sheet = shop.sheets[index];
            if (sheet.countMisprints() != sheet.countMisprintsBySets()
                    || sheet.countHoursUntilDry(shop.hours) != sheet.computeHoursUntilDry(shop.hours)) {
                return false;
            }
        }
        return true;
    }

    /** Runs the commands of a well-formed input and returns the index of the one that fails, or NONE. */
    private int runCommands(int commands) {
        input.rewind();
        for (int command = 0; command < commands; command++) {
            input.readNext();
            if (runCommand() < 0) {
                return command;
            }
        }
        return NONE;
    }

    /** Runs the command that was read last and returns its answer, negative if it is a fault. */
    private int runCommand() {
        switch (input.keyword) {
            case PLATE:
                return shop.newPlate(input.first);
            case STAR:
                return shop.newStar(input.first, input.second, input.third);
            case SHIFT:
                return shop.shiftPlate(input.first, input.second, input.third);
            case SHEET:
                return shop.newSheet();
            case PRINT:
                return shop.printPlate(input.first, input.second, refusal);
            case RACK:
                return shop.rackSheet(input.first, refusal);
            case OUT:
                return shop.unrackSheet(input.first);
            case HOUR:
                return shop.letHoursPass(input.first);
            default:
                return BAD_ARGUMENT;
        }
    }

    /** A plate: its ink, its stars and its shift. */
    private static final class Plate {
        // Bit x of row y is set if there is a star at (x, y).
        private final int[] rows = new int[ROWS];
        private int ink = CYAN;
        private int dx = 0;
        private int dy = 0;

        void copyFrom(Plate other) {
            System.arraycopy(other.rows, 0, rows, 0, ROWS);
            ink = other.ink;
            dx = other.dx;
            dy = other.dy;
        }

        boolean isStarAt(int x, int y) {
            return (rows[y] & 1 << x) != 0;
        }

        /** Puts a star to a place where there is none, or removes the one that is there. */
        void turnStar(int x, int y) {
            rows[y] ^= 1 << x;
        }

        int countStars() {
            int count = 0;
            for (int y = 0; y < ROWS; y++) {
                count += Integer.bitCount(rows[y]);
            }
            return count;
        }

        /** Returns a row of stars moved by columns, without those that leave the sheet. */
        int movedRow(int y, int columns) {
            return columns < 0 ? rows[y] >> -columns : rows[y] << columns & WHOLE_ROW;
        }

        /** Returns the number of stars that the shift moves off the sheet. */
        int countBeside() {
            int onSheet = 0;
            for (int y = 0; y < ROWS; y++) {
                if (isPlace(0, y + dy)) {
                    onSheet += Integer.bitCount(movedRow(y, dx));
                }
            }
            return countStars() - onSheet;
        }

        int countMatches(Plate other, int columns, int down) {
            int count = 0;
            for (int y = 0; y < ROWS; y++) {
                if (isPlace(0, y + down)) {
                    count += Integer.bitCount(movedRow(y, columns) & other.rows[y + down]);
                }
            }
            return count;
        }

        /** Writes the columns and rows of the stars into two arrays and returns the number of stars. */
        int listStars(int[] columns, int[] downs) {
            int count = 0;
            for (int y = 0; y < ROWS; y++) {
                for (int x = 0; x < COLUMNS; x++) {
                    if (isStarAt(x, y) && count < MOST_STARS) {
                        columns[count] = x;
                        downs[count] = y;
                        count++;
                    }
                }
            }
            return count;
        }
    }

    /** Fits two plates to each other, by two methods. */
    private static final class Fitting {
        private final int[] differences = new int[SHIFTS * SHIFTS];
        private final int[] firstX = new int[MOST_STARS];
        private final int[] firstY = new int[MOST_STARS];
        private final int[] secondX = new int[MOST_STARS];
        private final int[] secondY = new int[MOST_STARS];
        private int most = 0;
        private int bestX = 0;
        private int bestY = 0;

        /** Finds the best shift and its number of matches. */
        void tryAllShifts(Plate first, Plate second) {
            most = NONE;
            for (int dx = -MOST_SHIFT; dx <= MOST_SHIFT; dx++) {
                for (int dy = -MOST_SHIFT; dy <= MOST_SHIFT; dy++) {
                    consider(dx, dy, first.countMatches(second, dx, dy));
                }
            }
        }

        /** Takes a shift if it is better; of equal ones the first, which has the smaller dx and dy, stays. */
        private void consider(int dx, int dy, int found) {
            boolean isNearer = Math.abs(dx) + Math.abs(dy) < Math.abs(bestX) + Math.abs(bestY);
            if (found > most || found == most && isNearer) {
                most = found;
                bestX = dx;
                bestY = dy;
            }
        }

        /** Returns how often the most frequent difference of a star of each plate occurs. */
        int countPairs(Plate first, Plate second) {
            Arrays.fill(differences, 0);
            int firstTotal = first.listStars(firstX, firstY);
            int secondTotal = second.listStars(secondX, secondY);
            int highest = 0;
            for (int i = 0; i < firstTotal; i++) {
                for (int j = 0; j < secondTotal; j++) {
                    highest = Math.max(highest, countPair(secondX[j] - firstX[i], secondY[j] - firstY[i]));
                }
            }
            return highest;
        }

        private int countPair(int dx, int dy) {
            if (!isShift(dx, dy)) {
                return 0;
            }
            int index = (dx + MOST_SHIFT) * SHIFTS + dy + MOST_SHIFT;
            differences[index]++;
            return differences[index];
        }
    }

    /** A sheet: its colours, printed and intended, its wetness, its smears and its place in the rack. */
    private static final class Sheet {
        // Both hold a set of places for each ink: bit x of row (ink index * ROWS + y) tells of (x, y).
        private final int[] printed = new int[INKS * ROWS];
        private final int[] meant = new int[INKS * ROWS];
        private int wet = 0;
        private int smearTotal = 0;
        private int place = NONE;

        void copyFrom(Sheet other) {
            System.arraycopy(other.printed, 0, printed, 0, INKS * ROWS);
            System.arraycopy(other.meant, 0, meant, 0, INKS * ROWS);
            wet = other.wet;
            smearTotal = other.smearTotal;
            place = other.place;
        }

        boolean isWet() {
            return wet > 0;
        }

        boolean isInRack() {
            return place != NONE;
        }

        int colourAt(int x, int y) {
            return inksAt(printed, x, y);
        }

        int meantAt(int x, int y) {
            return inksAt(meant, x, y);
        }

        private static int inksAt(int[] sets, int x, int y) {
            int sum = 0;
            for (int ink = 0; ink < INKS; ink++) {
                sum |= (sets[ink * ROWS + y] >> x & 1) << ink;
            }
            return sum;
        }

        int countPlaces(int colour) {
            int count = 0;
            for (int y = 0; y < ROWS; y++) {
                for (int x = 0; x < COLUMNS; x++) {
                    if (colourAt(x, y) == colour) {
                        count++;
                    }
                }
            }
            return count;
        }

        int countMisprints() {
            int count = 0;
            for (int y = 0; y < ROWS; y++) {
                for (int x = 0; x < COLUMNS; x++) {
                    if (colourAt(x, y) != meantAt(x, y)) {
                        count++;
                    }
                }
            }
            return count;
        }

        int countMisprintsBySets() {
            int count = 0;
            for (int y = 0; y < ROWS; y++) {
                int wrong = 0;
                for (int ink = 0; ink < INKS; ink++) {
                    wrong |= printed[ink * ROWS + y] ^ meant[ink * ROWS + y];
                }
                count += Integer.bitCount(wrong);
            }
            return count;
        }

        void take(Plate plate) {
            if (isWet()) {
                smear();
            }
            int firstRow = inkIndex(plate.ink) * ROWS;
            for (int y = 0; y < ROWS; y++) {
                meant[firstRow + y] |= plate.rows[y];
                if (isPlace(0, y + plate.dy)) {
                    printed[firstRow + y + plate.dy] |= plate.movedRow(y, plate.dx);
                }
            }
            wet = (plate.countStars() + STARS_PER_WETNESS - 1) / STARS_PER_WETNESS;
        }

        private void smear() {
            for (int row = 0; row < INKS * ROWS; row++) {
                printed[row] |= printed[row] << 1 & WHOLE_ROW;
            }
            smearTotal++;
        }

        /** Returns by how much the wetness decreases in the hour that follows the passed ones. */
        private int dryingAfter(int passedHours) {
            if (isInRack()) {
                return 2;
            }
            return (passedHours & 1) == 0 ? 1 : 0;
        }

        void dryAfter(int passedHours) {
            wet = Math.max(0, wet - dryingAfter(passedHours));
        }

        int countHoursUntilDry(int passedHours) {
            int left = wet;
            int count = 0;
            // Outside the rack the wetness decreases in at least every second hour.
            int bound = 2 * wet;
            while (left > 0 && count < bound) {
                left -= dryingAfter(passedHours + count);
                count++;
            }
            return count;
        }

        int computeHoursUntilDry(int passedHours) {
            if (!isWet()) {
                return 0;
            }
            if (isInRack()) {
                return (wet + 1) / 2;
            }
            return 2 * wet - 1 + (passedHours & 1);
        }
    }

    /** Everything that changes can change. Its changes return their answer, or a fault and change nothing. */
    private static final class Shop {
        // Those beyond the totals are always new, as a shop is copied with all of them.
        private final Plate[] plates = new Plate[MOST_PLATES];
        private final Sheet[] sheets = new Sheet[MOST_SHEETS];
        private final int[] inkDrops = new int[INKS];
        private int plateTotal = 0;
        private int sheetTotal = 0;
        private int hours = 0;

        Shop() {
            for (int plate = 0; plate < MOST_PLATES; plate++) {
                plates[plate] = new Plate();
            }
            for (int sheet = 0; sheet < MOST_SHEETS; sheet++) {
                sheets[sheet] = new Sheet();
            }
            Arrays.fill(inkDrops, FIRST_DROPS);
        }

        void copyFrom(Shop other) {
            for (int plate = 0; plate < MOST_PLATES; plate++) {
                plates[plate].copyFrom(other.plates[plate]);
            }
            for (int sheet = 0; sheet < MOST_SHEETS; sheet++) {
                sheets[sheet].copyFrom(other.sheets[sheet]);
            }
            System.arraycopy(other.inkDrops, 0, inkDrops, 0, INKS);
            plateTotal = other.plateTotal;
            sheetTotal = other.sheetTotal;
            hours = other.hours;
        }

        boolean isPlate(int plate) {
            return plate >= 0 && plate < plateTotal;
        }

        boolean isSheet(int sheet) {
            return sheet >= 0 && sheet < sheetTotal;
        }

        int newPlate(int ink) {
            if (!isInk(ink)) {
                return BAD_ARGUMENT;
            }
            if (plateTotal >= MOST_PLATES) {
                return BAD_STATE;
            }
            plates[plateTotal].ink = ink;
            plateTotal++;
            return plateTotal - 1;
        }

        int newStar(int plate, int x, int y) {
            if (!isPlate(plate)) {
                return NO_INDEX;
            }
            if (!isPlace(x, y)) {
                return BAD_ARGUMENT;
            }
            Plate changed = plates[plate];
            if (changed.isStarAt(x, y) || changed.countStars() >= MOST_STARS) {
                return BAD_STATE;
            }
            changed.turnStar(x, y);
            return changed.countStars();
        }

        int dropStar(int plate, int x, int y) {
            if (!isPlate(plate)) {
                return NO_INDEX;
            }
            if (!isPlace(x, y)) {
                return BAD_ARGUMENT;
            }
            Plate changed = plates[plate];
            if (!changed.isStarAt(x, y)) {
                return NO_ELEMENT;
            }
            changed.turnStar(x, y);
            return changed.countStars();
        }

        int shiftPlate(int plate, int dx, int dy) {
            if (!isPlate(plate)) {
                return NO_INDEX;
            }
            if (!isShift(dx, dy)) {
                return BAD_ARGUMENT;
            }
            plates[plate].dx = dx;
            plates[plate].dy = dy;
            return plates[plate].countBeside();
        }

        int fitPlate(int plate, int other, Fitting fitting) {
            if (!isPlate(plate) || !isPlate(other)) {
                return NO_INDEX;
            }
            if (plate == other) {
                return BAD_ARGUMENT;
            }
            fitting.tryAllShifts(plates[plate], plates[other]);
            plates[plate].dx = fitting.bestX;
            plates[plate].dy = fitting.bestY;
            return fitting.most;
        }

        int newSheet() {
            if (sheetTotal >= MOST_SHEETS) {
                return BAD_STATE;
            }
            sheetTotal++;
            return sheetTotal - 1;
        }

        int printPlate(int plate, int sheet, Refusal refusal) {
            if (!isPlate(plate) || !isSheet(sheet)) {
                return NO_INDEX;
            }
            Plate used = plates[plate];
            Sheet target = sheets[sheet];
            if (target.isInRack()) {
                return refusal.keep(IN_RACK, target.place);
            }
            int needed = used.countStars();
            int ink = inkIndex(used.ink);
            if (inkDrops[ink] < needed) {
                return refusal.keep(NO_INK, needed - inkDrops[ink]);
            }
            target.take(used);
            inkDrops[ink] -= needed;
            return used.countBeside();
        }

        int rackSheet(int sheet, Refusal refusal) {
            if (!isSheet(sheet)) {
                return NO_INDEX;
            }
            if (sheets[sheet].isInRack()) {
                return BAD_STATE;
            }
            for (int place = 0; place < RACK_PLACES; place++) {
                if (sheetAtPlace(place) == NONE) {
                    sheets[sheet].place = place;
                    return place;
                }
            }
            return refusal.keep(RACK_FULL, RACK_PLACES);
        }

        int unrackSheet(int sheet) {
            if (!isSheet(sheet)) {
                return NO_INDEX;
            }
            if (!sheets[sheet].isInRack()) {
                return BAD_STATE;
            }
            int place = sheets[sheet].place;
            sheets[sheet].place = NONE;
            return place;
        }

        /** Returns the index of the sheet at a place of the rack, or NONE. */
        int sheetAtPlace(int place) {
            for (int sheet = 0; sheet < sheetTotal; sheet++) {
                if (sheets[sheet].place == place) {
                    return sheet;
                }
            }
            return NONE;
        }

        int refill(int ink, int added) {
            if (!isInk(ink) || added < 1 || added > MOST_DROPS_AT_ONCE) {
                return BAD_ARGUMENT;
            }
            int total = inkDrops[inkIndex(ink)] + added;
            if (total > MOST_DROPS) {
                return BAD_STATE;
            }
            inkDrops[inkIndex(ink)] = total;
            return total;
        }

        int letHoursPass(int passing) {
            if (passing < 1 || passing > MOST_HOURS_AT_ONCE) {
                return BAD_ARGUMENT;
            }
            int dried = 0;
            for (int index = 0; index < sheetTotal; index++) {
                Sheet sheet = sheets[index];
                boolean wasWet = sheet.isWet();
                for (int passed = 0; passed < passing; passed++) {
                    sheet.dryAfter(hours + passed);
                }
                if (wasWet && !sheet.isWet()) {
                    dried++;
                }
            }
            hours += passing;
            return dried;
        }
    }

    /** The latest refusal; its reason is NONE as long as nothing was refused. */
    private static final class Refusal {
        private int reason = NONE;
        private int detail = 0;

        int keep(int newReason, int newDetail) {
            reason = newReason;
            detail = newDetail;
            return REFUSED;
        }
    }

    /** The shop as it was before each change that can be undone. */
    private static final class History {
        // One more than can be undone: a change that may still fail must not overwrite the oldest one.
        private static final int SLOTS = MOST_CHANGES + 1;

        private final Shop[] befores = new Shop[SLOTS];
        private int oldest = 0;
        private int count = 0;

        History() {
            for (int slot = 0; slot < SLOTS; slot++) {
                befores[slot] = new Shop();
            }
        }

        /** Notes the shop before a change, which counts only when it is kept. */
        void prepare(Shop shop) {
            prepared().copyFrom(shop);
        }

        Shop prepared() {
            return befores[(oldest + count) % SLOTS];
        }

        void keep() {
            if (count < MOST_CHANGES) {
                count++;
            } else {
                oldest = (oldest + 1) % SLOTS;
            }
        }

        /** Returns the shop before the latest change, which then no longer counts; there must be one. */
        Shop takeLatest() {
            count--;
            return prepared();
        }

        void clear() {
            count = 0;
        }
    }

    /** How each command begins. */
    private enum Keyword {
        PLATE("plate "),
        STAR("star "),
        SHIFT("shift "),
        SHEET("sheet"),
        PRINT("print "),
        RACK("rack "),
        OUT("out "),
        HOUR("hour ");

        private final String text;

        Keyword(String text) {
            this.text = text;
        }
    }

    /** The input buffer, and what reads the commands in it one after the other. */
    private static final class Input {
        private static final Keyword[] KEYWORDS = Keyword.values();

        private final char[] text = new char[MOST_INPUT];
        private int length = 0;
        // Once the text proves malformed, nothing more is read, so that the position stays at the error.
        private boolean isWellFormed = true;
        private int position = 0;
        private Keyword keyword = Keyword.SHEET;
        private int first = 0;
        private int second = 0;
        private int third = 0;

        boolean isFull() {
            return length >= MOST_INPUT;
        }

        int append(char character) {
            text[length] = character;
            length++;
            return length;
        }

        void clear() {
            length = 0;
        }

        void rewind() {
            isWellFormed = true;
            position = 0;
        }

        /** Returns the number of commands, or NONE if the text is malformed at the position. */
        int countCommands() {
            rewind();
            for (int commands = 1; commands <= MOST_INPUT; commands++) {
                readNext();
                if (!isWellFormed) {
                    return NONE;
                }
                if (position >= length) {
                    return commands;
                }
            }
            return NONE;
        }

        /** Reads the next command, and the semicolon before it if it is not the first. */
        void readNext() {
            if (position > 0) {
                readSign(';');
            }
            readKeyword();
            if (isWellFormed) {
                readArguments();
            }
        }

        private void readKeyword() {
            if (!isWellFormed) {
                return;
            }
            int longest = 0;
            for (int index = 0; index < KEYWORDS.length; index++) {
                int matched = countMatching(KEYWORDS[index].text);
                longest = Math.max(longest, matched);
                if (matched == KEYWORDS[index].text.length()) {
                    keyword = KEYWORDS[index];
                    position += matched;
                    return;
                }
            }
            isWellFormed = false;
            position += longest;
        }

        /** Returns how many characters from the position on are those that a word begins with. */
        private int countMatching(String word) {
            int count = 0;
            while (count < word.length() && position + count < length
                    && text[position + count] == word.charAt(count)) {
                count++;
            }
            return count;
        }

        private void readArguments() {
            switch (keyword) {
                case PLATE:
                    first = readInk();
                    break;
                case STAR:
                    first = readDigit();
                    readSign(' ');
                    second = readNumber();
                    readSign(',');
                    third = readDigit();
                    break;
                case SHIFT:
                    first = readDigit();
                    second = readSignedDigit();
                    third = readSignedDigit();
                    break;
                case PRINT:
                    first = readDigit();
                    readSign('>');
                    second = readDigit();
                    break;
                case RACK:
                case OUT:
                    first = readDigit();
                    break;
                case HOUR:
                    first = readNumber();
                    break;
                default:
                    break;
            }
        }

        private boolean isNext(char sign) {
            return isWellFormed && position < length && text[position] == sign;
        }

        private boolean isDigitNext() {
            return isWellFormed && position < length && text[position] >= '0' && text[position] <= '9';
        }

        private void readSign(char sign) {
            if (isNext(sign)) {
                position++;
            } else {
                isWellFormed = false;
            }
        }

        private int readDigit() {
            if (!isDigitNext()) {
                isWellFormed = false;
                return 0;
            }
            position++;
            return text[position - 1] - '0';
        }

        private int readNumber() {
            int number = readDigit();
            return isDigitNext() ? 10 * number + readDigit() : number;
        }

        private int readSignedDigit() {
            if (isNext('-')) {
                position++;
                return -readDigit();
            }
            readSign('+');
            return readDigit();
        }

        private int readInk() {
            int ink = isNext('c') ? CYAN : isNext('m') ? MAGENTA : YELLOW;
            readSign(ink == CYAN ? 'c' : ink == MAGENTA ? 'm' : 'y');
            return ink;
        }
    }
}

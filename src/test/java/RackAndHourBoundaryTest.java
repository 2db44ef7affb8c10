/** Each sentence on the rack and on hours that names a boundary case, with what lies on both sides of it. */
public final class RackAndHourBoundaryTest {
    public static void main(String[] args) {
        Check.part("Rack: 3 places, numbered from 0", RackAndHourBoundaryTest::places);
        Check.part("Rack: each sheet at each place", RackAndHourBoundaryTest::eachSheetAtEachPlace);
        Check.part("Rack: the free place with the smallest number", RackAndHourBoundaryTest::smallestFreePlace);
        Check.part("Rack: refused if there is none", RackAndHourBoundaryTest::fullRack);
        Check.part("Rack: a sheet that is in it, and one that is not", RackAndHourBoundaryTest::insideAndOutside);
        Check.part("Hours: the wetness in the rack decreases by 2", RackAndHourBoundaryTest::dryingInRack);
        Check.part("Hours: that of others by 1 in even hours", RackAndHourBoundaryTest::dryingOutside);
        Check.part("Hours: the hours that have passed before decide", RackAndHourBoundaryTest::parityOverCalls);
        Check.part("Hours: the wetness does not become less than 0", RackAndHourBoundaryTest::neverLessThanDry);
        Check.part("Hours: the number of hours increases by 1", RackAndHourBoundaryTest::hoursPassed);
        Check.part("passHours: hours from 1 to 50", RackAndHourBoundaryTest::hoursAtOnce);
        Check.part("passHours: sheets whose wetness becomes 0", RackAndHourBoundaryTest::driedSheets);
        Check.part("hoursUntilDry: 0 if it is 0 now", RackAndHourBoundaryTest::dryNow);
        Check.part("hoursUntilDry: every wetness", RackAndHourBoundaryTest::everyWetness);
        Check.finish("RackAndHourBoundaryTest");
    }

    // Rack

    private static void places() {
        StarPress x = Shops.withSheets(8);
        for (int place = 0; place < 3; place++) {
            int free = place;
            Check.throwsElement("the free place " + place, () -> x.sheetInRack(free));
            Check.same("place", x.putInRack(7 - place), place);
            Check.same("sheet", x.sheetInRack(place), 7 - place);
            Check.same("place of the sheet", x.rackPlace(7 - place), place);
        }
        for (int place : new int[] {Shops.MIN, -1, 3, 4, Shops.MAX}) {
            Check.throwsIndex("place " + place, () -> x.sheetInRack(place));
            Check.throwsIndex("place " + place + " of an empty rack", () -> new StarPress().sheetInRack(place));
        }
    }

    private static void eachSheetAtEachPlace() {
        for (int sheet = 0; sheet < 8; sheet++) {
            for (int place = 0; place < 3; place++) {
                StarPress x = Shops.withSheets(8);
                x.addPlate(1);
                int at = sheet;
                for (int before = 1; before <= place; before++) {
                    x.putInRack((sheet + before) % 8);
                }
                Check.same("place", x.putInRack(sheet), place);
                Check.same("sheet", x.sheetInRack(place), sheet);
                Check.same("place of the sheet", x.rackPlace(sheet), place);
                Shops.refused(x, () -> x.print(0, at), StarPress.IN_RACK, place);
                Check.same("the place before", x.takeOut(sheet), place);
                int free = place;
                Check.throwsElement("the free place", () -> x.sheetInRack(free));
                Check.same("a print outside", x.print(0, sheet), 0);
            }
        }
    }

    /** Frees every set of places. */
    private static void smallestFreePlace() {
        for (int freed = 0; freed < 8; freed++) {
            StarPress x = Shops.withSheets(8);
            for (int place = 0; place < 3; place++) {
                x.putInRack(place);
            }
            for (int place = 2; place >= 0; place--) {
                if ((freed >> place & 1) != 0) {
                    Check.same("the place before", x.takeOut(place), place);
                }
            }
            int sheet = 3;
            for (int place = 0; place < 3; place++) {
                if ((freed >> place & 1) != 0) {
                    Check.same("the smallest free place of " + freed, x.putInRack(sheet), place);
                    sheet++;
                }
            }
            int next = sheet;
            Shops.refused(x, () -> x.putInRack(next), StarPress.RACK_FULL, 3);
        }
    }

    private static void fullRack() {
        StarPress x = Shops.withSheets(8);
        x.putInRack(4);
        x.putInRack(0);
        Check.throwsElement("no refusal", x::refusalReason);
        x.putInRack(7);
        for (int sheet : new int[] {1, 2, 3, 5, 6}) {
            Shops.refused(x, () -> x.putInRack(sheet), StarPress.RACK_FULL, 3);
            Check.throwsElement("its place", () -> x.rackPlace(sheet));
        }
        Check.same("sheets", x.sheetInRack(0) + ", " + x.sheetInRack(1) + ", " + x.sheetInRack(2), "4, 0, 7");
        x.takeOut(7);
        Check.same("the last place again", x.putInRack(6), 2);
        Shops.refused(x, () -> x.putInRack(7), StarPress.RACK_FULL, 3);
    }

    private static void insideAndOutside() {
        StarPress x = Shops.withSheets(8);
        for (int sheet : new int[] {0, 7}) {
            Check.throwsState("takeOut of a sheet outside", () -> x.takeOut(sheet));
            Check.throwsElement("place of a sheet outside", () -> x.rackPlace(sheet));
            x.putInRack(sheet);
            Check.throwsState("putInRack of a sheet inside", () -> x.putInRack(sheet));
        }
        Check.same("place", x.takeOut(7), 1);
        Check.throwsState("takeOut again", () -> x.takeOut(7));
        Check.throwsElement("place of a sheet outside", () -> x.rackPlace(7));
        Check.throwsElement("sheet at the free place", () -> x.sheetInRack(1));
        Check.same("the other sheet", x.sheetInRack(0), 0);
        Check.throwsElement("no refusal", x::refusalReason);
    }

    // Hours

    /** A shop at an hour with a sheet of a wetness from 0 to 5, which is in the rack or not. */
    private static StarPress wet(int wetness, int hour, boolean inRack) {
        StarPress x = Shops.withStars(4 * wetness, 1);
        if (hour > 0) {
            x.passHours(hour);
        }
        x.print(0, 0);
        if (inRack) {
            x.putInRack(0);
        }
        return x;
    }

    private static void dryingInRack() {
        for (int hour = 0; hour < 2; hour++) {
            for (int wetness = 0; wetness <= 5; wetness++) {
                StarPress x = wet(wetness, hour, true);
                for (int left = wetness - 2; left > -8; left -= 2) {
                    x.passHours(1);
                    Check.same("wetness of " + wetness + " then", x.wetness(0), Math.max(0, left));
                }
            }
        }
    }

    private static void dryingOutside() {
        for (int hour = 0; hour < 2; hour++) {
            for (int wetness = 0; wetness <= 5; wetness++) {
                StarPress x = wet(wetness, hour, false);
                int left = wetness;
                for (int passed = hour; passed < 16; passed++) {
                    x.passHours(1);
                    left = Math.max(0, left - (passed % 2 == 0 ? 1 : 0));
                    Check.same("wetness of " + wetness + " after hour " + passed, x.wetness(0), left);
                }
            }
        }
    }

    private static void parityOverCalls() {
        StarPress x = wet(5, 0, false);
        int[] hours = {1, 1, 3, 2, 1};
        int[] due = {4, 4, 2, 1, 1};
        for (int call = 0; call < hours.length; call++) {
            x.passHours(hours[call]);
            Check.same("wetness at hour " + x.hour(), x.wetness(0), due[call]);
        }
        StarPress undone = wet(5, 0, false);
        undone.passHours(1);
        undone.undo();
        undone.passHours(1);
        Check.same("wetness after the undone hour again", undone.wetness(0), 4);
        undone.save();
        undone.passHours(1);
        undone.restore();
        undone.passHours(1);
        Check.same("wetness after the restored odd hour", undone.wetness(0), 4);
        undone.passHours(1);
        Check.same("wetness after the next even hour", undone.wetness(0), 3);
    }

    private static void neverLessThanDry() {
        for (int wetness = 0; wetness <= 5; wetness++) {
            for (boolean inRack : new boolean[] {false, true}) {
                StarPress x = wet(wetness, 0, inRack);
                Check.same("dried", x.passHours(50), wetness > 0 ? 1 : 0);
                Check.same("wetness", x.wetness(0), 0);
                Check.same("mean", x.meanWetness(), 0.0);
                Check.isTrue("it is dry", !x.wouldSmear(0));
                Check.same("dried again", x.passHours(1), 0);
                Check.same("wetness", x.wetness(0), 0);
                Check.same("hours until dry", x.hoursUntilDry(0), 0);
            }
        }
        StarPress x = wet(1, 0, true);
        x.passHours(1);
        x.takeOut(0);
        x.passHours(1);
        x.print(0, 0);
        Check.same("wetness after less than 2 were left", x.wetness(0), 1);
        Check.same("smears", x.smears(0), 0);
    }

    private static void hoursPassed() {
        StarPress x = new StarPress();
        Check.same("hour", x.hour(), 0);
        x.passHours(1);
        Check.same("hour", x.hour(), 1);
        x.passHours(50);
        Check.same("hour", x.hour(), 51);
        x.undo();
        Check.same("hour", x.hour(), 1);
    }

    private static void hoursAtOnce() {
        StarPress x = wet(5, 0, true);
        for (int hours : new int[] {Shops.MIN, -1, 0, 51, Shops.MAX}) {
            Check.throwsArgument(hours + " hours", () -> x.passHours(hours));
            Check.same("hour", x.hour(), 0);
            Check.same("wetness", x.wetness(0), 5);
        }
        Check.same("dried in 1 hour", x.passHours(1), 0);
        Check.same("wetness", x.wetness(0), 3);
        Check.same("dried in 50 hours", x.passHours(50), 1);
        Check.same("hour", x.hour(), 51);
    }

    private static void driedSheets() {
        for (int hours = 1; hours <= 12; hours++) {
            StarPress x = Shops.withSheets(8);
            for (int plate = 0; plate < 5; plate++) {
                x.addPlate(Shops.INKS[plate % 3]);
                Shops.addStars(x, plate, 0, 4 * plate + 1);
                x.print(plate, plate);
            }
            for (int plate = 2; plate < 5; plate++) {
                x.addInk(Shops.INKS[plate % 3], 40);
                x.print(plate, plate + 3);
                x.putInRack(plate + 3);
            }
            Check.same("dried in " + hours, x.passHours(hours), expectedDried(hours));
            Check.same("dried later", x.passHours(50), 8 - expectedDried(hours));
            Check.same("dried at last", x.passHours(50), 0);
        }
    }

    /** Wetness 1 to 5 outside is dry after 1, 3, 5, 7 and 9 hours, wetness 3 to 5 in the rack after 2, 2 and 3. */
    private static int expectedDried(int hours) {
        int dried = 0;
        for (int due : new int[] {1, 3, 5, 7, 9, 2, 2, 3}) {
            dried += due <= hours ? 1 : 0;
        }
        return dried;
    }

    private static void dryNow() {
        for (boolean inRack : new boolean[] {false, true}) {
            for (int hour = 0; hour < 2; hour++) {
                StarPress x = wet(0, hour, inRack);
                Check.same("hours", x.hoursUntilDry(0), 0);
                Check.same("at once", x.hoursUntilDryAtOnce(0), 0);
            }
        }
    }

    private static void everyWetness() {
        for (int wetness = 1; wetness <= 5; wetness++) {
            expectDryIn(wet(wetness, 0, false), 2 * wetness - 1);
            expectDryIn(wet(wetness, 1, false), 2 * wetness);
            expectDryIn(wet(wetness, 0, true), (wetness + 1) / 2);
            expectDryIn(wet(wetness, 1, true), (wetness + 1) / 2);
        }
    }

    private static void expectDryIn(StarPress x, int hours) {
        int hour = x.hour();
        Check.same("hours", x.hoursUntilDry(0), hours);
        Check.same("at once", x.hoursUntilDryAtOnce(0), hours);
        Check.same("the hour stays", x.hour(), hour);
        for (int left = hours; left > 0; left--) {
            Check.same("hours left", x.hoursUntilDry(0), left);
            Check.same("at once", x.hoursUntilDryAtOnce(0), left);
            Check.isTrue("it is wet", x.wetness(0) > 0);
            Check.same("dried", x.passHours(1), left == 1 ? 1 : 0);
        }
        Check.same("wetness", x.wetness(0), 0);
    }
}

/** Each sentence on the input buffer, on texts and on their execution that names a boundary case. */
public final class TextBoundaryTest {
    private static final String[] WHOLE = {"plate c", "plate m", "plate y", "star 0 5,2", "star 0 15,2", "shift 0+1-2",
        "sheet", "print 0>1", "rack 0", "out 0", "hour 5", "hour 50"};
    private static final String SIXTY_SIGNS = "sheet;sheet;sheet;sheet;sheet;sheet;sheet;sheet;rack 0;out 0";

    public static void main(String[] args) {
        buffer();
        texts();
        execution();
        Check.finish("TextBoundaryTest");
    }

    private static void buffer() {
        Check.part("Commands: the buffer holds at most 60 characters", TextBoundaryTest::fullBuffer);
        Check.part("feed: any character", TextBoundaryTest::anyCharacter);
        Check.part("execute: the buffer is empty afterwards", TextBoundaryTest::emptyAfterwards);
    }

    private static void texts() {
        Check.part("Commands: one or more commands", TextBoundaryTest::oneOrMore);
        Check.part("Commands: each letter, digit and sign", TextBoundaryTest::eachForm);
        Check.part("Commands: numbers have one or two digits", TextBoundaryTest::numbers);
        Check.part("Commands: a text that ends too early", TextBoundaryTest::tooEarly);
        Check.part("Commands: the first character that cannot continue", TextBoundaryTest::eachWrongCharacter);
        Check.part("Commands: a missing or an additional character", TextBoundaryTest::missingAndAdditional);
        Check.part("Commands: separated by semicolons", TextBoundaryTest::semicolons);
        Check.part("Commands: keywords letter by letter", TextBoundaryTest::letterByLetter);
        Check.part("Commands: errors in texts of 60 characters", TextBoundaryTest::errorsInFullBuffer);
    }

    private static void execution() {
        Check.part("execute: values at the bounds", TextBoundaryTest::values);
        Check.part("execute: the index of the failed command", TextBoundaryTest::failedCommands);
        Check.part("execute: all commands or none", TextBoundaryTest::allOrNone);
        Check.part("execute: a refusal of a command is kept", TextBoundaryTest::refusals);
        Check.part("execute: a later refusal is not reached", TextBoundaryTest::unreachedRefusals);
        Check.part("errorPosition: none kept, the last kept", TextBoundaryTest::keptErrorPosition);
        Check.part("failedCommand: none kept, the last kept", TextBoundaryTest::keptFailedCommand);
    }

    // The buffer

    private static void fullBuffer() {
        StarPress x = new StarPress();
        for (int length = 1; length <= 60; length++) {
            Check.same("length", x.feed(SIXTY_SIGNS.charAt(length - 1)), length);
        }
        Check.throwsState("character 61", () -> x.feed(';'));
        Check.throwsState("character 61 again", () -> x.feed('x'));
        Check.same("the commands of 60 characters", x.execute(), 10);
        Check.same("sheets", x.sheetCount(), 8);
        Check.same("length afterwards", x.feed('o'), 1);
        Check.throwsArgument("what is left of the text", x::execute);
        Check.same("error position", x.errorPosition(), 1);
    }

    private static void anyCharacter() {
        for (int sign : new int[] {0, 1, 31, 127, 128, 255, 256, 0x661, 0x7fff, 0x8000, 0xd800, 0xfffe, 0xffff}) {
            StarPress x = new StarPress();
            Check.same("length", x.feed((char) sign), 1);
            Check.throwsArgument("character " + sign, x::execute);
            Check.same("error position", x.errorPosition(), 0);
            Shops.feedAll(x, "rack " + (char) sign);
            Check.throwsArgument("character " + sign + " for a digit", x::execute);
            Check.same("error position", x.errorPosition(), 5);
        }
        StarPress x = new StarPress();
        for (int wrapped : new int[] {256, 0x7f00, 0x8000, 0xff00}) {
            Shops.feedAll(x, "shee" + (char) ('t' + wrapped));
            Check.throwsArgument("a letter that is another's last byte", x::execute);
            Check.same("error position", x.errorPosition(), 4);
        }
    }

    private static void emptyAfterwards() {
        StarPress x = Shops.withSheets(1);
        for (String text : new String[] {"sheet", "shout", "sheet;out 7", "", "rack 0;out 0"}) {
            Shops.feedAll(x, text);
            Shops.answer(x::execute);
            Check.same("length after '" + text + "'", x.feed('h'), 1);
            Check.same("length", x.feed('o'), 2);
            Check.throwsArgument("a text that was begun anew", x::execute);
            Check.same("error position", x.errorPosition(), 2);
            Check.throwsArgument("no text", x::execute);
            Check.same("error position", x.errorPosition(), 0);
        }
    }

    // Texts

    /** Expects what the form of the text says: its error position or that it is well-formed. */
    private static void expectForm(String text) {
        StarPress x = Shops.withSheets(1);
        Shops.feedAll(x, text);
        int due = Grammar.errorPosition(text);
        if (due >= 0) {
            Check.throwsArgument("'" + text + "'", x::execute);
            Check.same("error position of '" + text + "'", x.errorPosition(), due);
            Check.throwsElement("failed command of '" + text + "'", x::failedCommand);
            Check.same("changes", x.undoCount(), 1);
        } else {
            String answer = Shops.answer(x::execute);
            boolean fails = answer.equals("UnsupportedOperationException");
            Check.isTrue("'" + text + "' is well-formed", fails || answer.equals("" + text.split(";").length));
            Check.throwsElement("error position of '" + text + "'", x::errorPosition);
            Check.same("changes", x.undoCount(), fails ? 1 : 2);
        }
        Check.same("length afterwards", x.feed('x'), 1);
    }

    private static void malformed(String text, int position) {
        Check.same("error position of '" + text + "' by its form", Grammar.errorPosition(text), position);
        expectForm(text);
    }

    private static void wellFormed(String text) {
        Check.same("'" + text + "' by its form", Grammar.errorPosition(text), -1);
        expectForm(text);
    }

    private static void oneOrMore() {
        malformed("", 0);
        wellFormed("sheet");
        wellFormed("sheet;sheet");
        wellFormed("sheet;sheet;sheet;sheet;sheet;sheet;sheet");
        wellFormed(SIXTY_SIGNS);
        malformed(";", 0);
        malformed("sheet;", 6);
        malformed("sheet sheet", 5);
    }

    private static void eachForm() {
        for (String command : WHOLE) {
            wellFormed(command);
            wellFormed(command + ";" + command);
            for (int index = 0; index < command.length(); index++) {
                for (char sign : "0123456789+-cmy".toCharArray()) {
                    expectForm(command.substring(0, index) + sign + command.substring(index + 1));
                }
            }
        }
        for (char digit = '0'; digit <= '9'; digit++) {
            wellFormed("star " + digit + " " + digit + digit + "," + digit);
            wellFormed("shift " + digit + "+" + digit + "-" + digit);
            wellFormed("print " + digit + ">" + digit);
            wellFormed("rack " + digit);
            wellFormed("out " + digit);
            wellFormed("hour " + digit + digit);
        }
        malformed("plate C", 6);
        malformed("plate k", 6);
        malformed("shift 0*1+1", 7);
        malformed("shift 0+1,1", 9);
        malformed("rack /", 5);
        malformed("rack :", 5);
    }

    private static void numbers() {
        malformed("hour ", 5);
        wellFormed("hour 1");
        wellFormed("hour 01");
        wellFormed("hour 99");
        malformed("hour 001", 7);
        malformed("hour 100", 7);
        malformed("hour +1", 5);
        malformed("hour -1", 5);
        malformed("star 0 ,1", 7);
        wellFormed("star 0 1,1");
        wellFormed("star 0 01,1");
        wellFormed("star 0 99,1");
        malformed("star 0 001,1", 9);
        malformed("star 0 1,", 9);
        malformed("star 0 1,01", 10);
        malformed("star 00 1,1", 6);
        malformed("star 0 -1,1", 7);
        malformed("rack 00", 6);
        malformed("out 10", 5);
        malformed("print 0>10", 9);
        malformed("print 10>0", 7);
        malformed("shift 0+10+1", 9);
        malformed("shift 0+1+10", 11);
        malformed("shift 10+1+1", 7);
        malformed("shift 01+1", 7);
    }

    private static void tooEarly() {
        for (String command : WHOLE) {
            for (int length = 0; length < command.length(); length++) {
                String start = command.substring(0, length);
                if (!start.equals("hour 5")) {
                    malformed(start, length);
                    malformed("sheet;" + start, 6 + length);
                    malformed("hour 12;" + start, 8 + length);
                }
            }
            malformed(command + ";", command.length() + 1);
        }
    }

    private static void eachWrongCharacter() {
        for (String command : WHOLE) {
            for (int index = 0; index < command.length(); index++) {
                for (char sign = 0; sign < 256; sign++) {
                    expectForm(command.substring(0, index) + sign + command.substring(index + 1));
                }
                malformed("out 0;" + command.substring(0, index) + "*", 6 + index);
            }
        }
    }

    private static void missingAndAdditional() {
        for (String command : WHOLE) {
            for (int index = 0; index <= command.length(); index++) {
                for (char sign : " 0;a,s".toCharArray()) {
                    expectForm(command.substring(0, index) + sign + command.substring(index));
                }
                if (index < command.length()) {
                    expectForm(command.substring(0, index) + command.substring(index + 1));
                    expectForm("hour 1;" + command.substring(0, index) + command.substring(index + 1));
                }
            }
        }
    }

    private static void semicolons() {
        malformed("sheet;;sheet", 6);
        malformed(";sheet", 0);
        malformed(" sheet", 0);
        malformed("sheet ", 5);
        malformed("sheet; sheet", 6);
        malformed("sheet ;sheet", 5);
        malformed("sheet,sheet", 5);
        malformed("sheet:sheet", 5);
        malformed("sheet\nsheet", 5);
        malformed("hour 1;;", 7);
        malformed("hour 1 ;", 6);
        wellFormed("hour 1;hour 1");
    }

    private static void letterByLetter() {
        malformed("Sheet", 0);
        malformed("sheeT", 4);
        malformed("SHEET", 0);
        malformed("plate Y", 6);
        malformed("sheeet", 4);
        malformed("shet", 3);
        malformed("print0>0", 5);
        malformed("pr", 2);
        malformed("plint", 2);
        malformed("pront", 2);
        malformed("stift", 2);
        malformed("shar", 2);
        malformed("start", 4);
        malformed("shifts", 5);
        malformed("sheets", 5);
        malformed("hours 1", 4);
        malformed("racks", 4);
        malformed("our 1", 2);
        malformed("heet", 1);
    }

    private static void errorsInFullBuffer() {
        String nine = "sheet;sheet;sheet;sheet;sheet;sheet;sheet;sheet;sheet;";
        malformed(nine + "sheet;", 60);
        malformed(nine + "sheetx", 59);
        malformed(nine + "plate ", 60);
        malformed(nine + "shift ", 60);
        malformed(nine + "hour  ", 59);
        wellFormed(nine + "hour 5");
        wellFormed(nine + "sheet");
        malformed(nine + "shee", 58);
        malformed("*" + nine + "sheet", 0);
    }

    // Execution

    /** A shop with a plate that has a star at 1, 1, and two sheets. */
    private static StarPress plateAndSheets() {
        StarPress x = Shops.withSheets(2);
        x.addPlate(StarPress.CYAN);
        x.addStar(0, 1, 1);
        return x;
    }

    private static void succeeds(String commands, int count) {
        Check.same("commands of " + commands, Shops.executed(plateAndSheets(), commands), count);
    }

    private static void fails(String commands, int failed) {
        StarPress x = plateAndSheets();
        Shops.feedAll(x, commands);
        Check.throwsUnsupported(commands, x::execute);
        Check.same("failed command of " + commands, x.failedCommand(), failed);
        Check.throwsElement("error position of " + commands, x::errorPosition);
        Check.same("changes", x.undoCount(), 4);
    }

    private static void values() {
        succeeds("star 0 15,7", 1);
        succeeds("star 0 00,0", 1);
        fails("star 0 16,0", 0);
        fails("star 0 99,0", 0);
        fails("star 0 0,8", 0);
        fails("star 1 0,0", 0);
        fails("star 9 0,0", 0);
        fails("star 0 1,1", 0);
        fails("star 0 01,1", 0);
        succeeds("shift 0+3+3;shift 0-3-3;shift 0-0+0", 3);
        fails("shift 0+4+0", 0);
        fails("shift 0-4+0", 0);
        fails("shift 0+0+4", 0);
        fails("shift 0+0-4", 0);
        fails("shift 1+0+0", 0);
        succeeds("print 0>0;print 0>1", 2);
        fails("print 1>0", 0);
        fails("print 0>2", 0);
        succeeds("rack 1;out 1", 2);
        fails("rack 2", 0);
        fails("out 2", 0);
        fails("out 0", 0);
        succeeds("hour 1;hour 50;hour 01", 3);
        fails("hour 0", 0);
        fails("hour 00", 0);
        fails("hour 51", 0);
        fails("hour 99", 0);
    }

    private static void failedCommands() {
        fails("out 0;sheet", 0);
        fails("sheet;out 0", 1);
        fails("sheet;sheet;sheet;sheet;sheet;sheet;sheet", 6);
        fails("sheet;sheet;sheet;sheet;sheet;sheet;rack 7;out 7;out 7;out 7", 8);
        StarPress x = new StarPress();
        Shops.feedAll(x, "sheet;sheet;sheet;sheet;sheet;sheet;sheet;sheet;rack 0;out 1");
        Check.throwsUnsupported("the tenth command", x::execute);
        Check.same("failed command", x.failedCommand(), 9);
        Shops.feedAll(x, "out 0;out 0;hour 0");
        Check.throwsUnsupported("three commands that fail", x::execute);
        Check.same("the first of them", x.failedCommand(), 0);
    }

    private static StarPress failedAfter(String commands) {
        StarPress x = plateAndSheets();
        Shops.feedAll(x, commands);
        Shops.answer(x::execute);
        return x;
    }

    private static void allOrNone() {
        String[] commands = {"plate m", "star 0 2,2", "shift 0+1+1", "sheet", "print 0>0", "rack 0", "rack 0;out 0",
            "hour 3", "plate y;star 1 0,0;sheet;print 1>2;print 0>2;rack 2"};
        for (String done : commands) {
            Check.sameLines("after " + done + " and a command that fails",
                    Shops.without(Shops.told(() -> failedAfter(done + ";out 1")), "failed command"),
                    Shops.without(Shops.told(TextBoundaryTest::plateAndSheets), "failed command"));
            Check.sameLines("after " + done + " and what is no command",
                    Shops.without(Shops.told(() -> failedAfter(done + ";out")), "error position"),
                    Shops.without(Shops.told(TextBoundaryTest::plateAndSheets), "error position"));
            StarPress x = failedAfter(done);
            Check.same("changes after " + done, x.undoCount(), 5);
            x.undo();
            Check.same("changes when they are undone at once", x.undoCount(), 4);
        }
    }

    private static void refusedCommand(String commands, int failed, int reason, int detail) {
        StarPress x = failedAfter(commands);
        Check.same("failed command of " + commands, x.failedCommand(), failed);
        Check.same("reason", x.refusalReason(), reason);
        Check.same("detail", x.refusalDetail(), detail);
        Check.same("sheets", x.sheetCount(), 2);
        Check.throwsElement("sheet in the rack", () -> x.sheetInRack(0));
    }

    private static void refusals() {
        refusedCommand("rack 0;print 0>0", 1, StarPress.IN_RACK, 0);
        refusedCommand("rack 0;rack 1;print 0>1;sheet", 2, StarPress.IN_RACK, 1);
        refusedCommand("sheet;sheet;rack 0;rack 1;rack 2;rack 3", 5, StarPress.RACK_FULL, 3);
        StarPress x = Shops.withStars(20, 2);
        Shops.feedAll(x, "print 0>0;print 0>0;print 0>1;print 0>1");
        Check.throwsUnsupported("more stars than drops", x::execute);
        Check.same("failed command", x.failedCommand(), 3);
        Check.same("reason", x.refusalReason(), StarPress.NO_INK);
        Check.same("detail", x.refusalDetail(), 20);
        Check.same("drops", x.drops(1), 60);
    }

    private static void unreachedRefusals() {
        StarPress x = failedAfter("rack 0;out 1;print 0>0");
        Check.same("failed command", x.failedCommand(), 1);
        Check.throwsElement("no refusal", x::refusalReason);
        StarPress y = failedAfter("rack 0;print 0>0;");
        Check.same("error position", y.errorPosition(), 17);
        Check.throwsElement("no refusal", y::refusalReason);
        StarPress z = failedAfter("rack 0;print 0>0;rack 1;print 0>1");
        Check.same("the detail of the first", z.refusalDetail(), 0);
        Shops.feedAll(z, "rack 0;rack 0");
        Check.throwsUnsupported("a sheet in the rack", z::execute);
        Check.same("the reason stays", z.refusalReason(), StarPress.IN_RACK);
        Shops.feedAll(z, "rack 0;print 0>");
        Check.throwsArgument("a malformed text", z::execute);
        Check.same("the reason stays", z.refusalReason(), StarPress.IN_RACK);
        Check.same("commands", Shops.executed(z, "rack 1;rack 0;sheet"), 3);
        Check.same("the reason stays", z.refusalReason(), StarPress.IN_RACK);
        Check.same("the detail stays", z.refusalDetail(), 0);
    }

    private static void keptErrorPosition() {
        StarPress x = plateAndSheets();
        Check.throwsElement("none at first", x::errorPosition);
        Shops.executed(x, "sheet");
        Check.throwsElement("none after a good text", x::errorPosition);
        Shops.feedAll(x, "out 0");
        Check.throwsUnsupported("out 0", x::execute);
        Check.throwsElement("none after a failed command", x::errorPosition);
        Check.throwsArgument("no text", x::execute);
        Check.same("position 0", x.errorPosition(), 0);
        Shops.feedAll(x, "sheet;");
        Check.throwsArgument("sheet;", x::execute);
        Check.same("the later position", x.errorPosition(), 6);
        Shops.executed(x, "sheet");
        Check.same("the position stays", x.errorPosition(), 6);
    }

    private static void keptFailedCommand() {
        StarPress x = plateAndSheets();
        Check.throwsElement("none at first", x::failedCommand);
        Shops.executed(x, "sheet");
        Check.throwsElement("none after a good text", x::failedCommand);
        Shops.feedAll(x, "out");
        Check.throwsArgument("out", x::execute);
        Check.throwsElement("none after a malformed text", x::failedCommand);
        Shops.feedAll(x, "hour 1;out 0");
        Check.throwsUnsupported("out 0", x::execute);
        Check.same("the failed command", x.failedCommand(), 1);
        Check.throwsArgument("no text", x::execute);
        Shops.executed(x, "sheet");
        Check.same("the failed command stays", x.failedCommand(), 1);
        Shops.feedAll(x, "out 0");
        Check.throwsUnsupported("out 0", x::execute);
        Check.same("the later failed command", x.failedCommand(), 0);
    }
}

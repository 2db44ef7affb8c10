import java.util.ArrayList;
import java.util.List;

/** The form of a text, written out as patterns: C is an ink's letter, D a digit and S a sign; all else is itself. */
final class Grammar {
    private static final List<String> COMMANDS = List.of("plate C", "star D D,D", "star D DD,D", "shift DSDSD", "sheet",
            "print D>D", "rack D", "out D", "hour D", "hour DD");

    private Grammar() {
    }

    /** Returns the error position of a text, or -1 if it is well-formed. */
    static int errorPosition(String text) {
        List<String> rests = COMMANDS;
        for (int index = 0; index < text.length(); index++) {
            rests = restsAfter(rests, text.charAt(index));
            if (rests.isEmpty()) {
                return index;
            }
        }
        return rests.contains("") ? -1 : text.length();
    }

    /** Returns what can still follow in a command when the next character was one of what could follow. */
    private static List<String> restsAfter(List<String> rests, char next) {
        if (next == ';' && rests.contains("")) {
            return COMMANDS;
        }
        List<String> left = new ArrayList<>();
        for (String rest : rests) {
            if (!rest.isEmpty() && fits(rest.charAt(0), next)) {
                left.add(rest.substring(1));
            }
        }
        return left;
    }

    private static boolean fits(char pattern, char next) {
        return switch (pattern) {
            case 'C' -> "cmy".indexOf(next) >= 0;
            case 'D' -> "0123456789".indexOf(next) >= 0;
            case 'S' -> "+-".indexOf(next) >= 0;
            default -> pattern == next;
        };
    }
}

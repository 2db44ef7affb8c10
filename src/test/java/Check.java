import java.util.ArrayList;
import java.util.List;
import java.util.NoSuchElementException;
import java.util.Objects;

/** Counts what tests expect and what they find. */
final class Check {
    private static final List<String> FAULTS = new ArrayList<>();
    private static String part = "";
    private static int expectations = 0;

    private Check() {
    }

    /** Runs a part of the tests under a name that faults are told with. */
    static void part(String name, Runnable test) {
        part = name;
        try {
            test.run();
        } catch (RuntimeException e) {
            FAULTS.add(name + ": " + e + " at " + e.getStackTrace()[0]);
        }
    }

    static void same(Object what, Object got, Object want) {
        expectations++;
        if (!Objects.equals(got, want)) {
            FAULTS.add(part + ": " + what + " is " + got + ", due is " + want);
        }
    }

    /** Expects two lists of lines to be the same, and tells only the first line that is not. */
    static void sameLines(String what, List<String> got, List<String> want) {
        same("number of lines of " + what, got.size(), want.size());
        for (int line = 0; line < Math.min(got.size(), want.size()); line++) {
            if (!got.get(line).equals(want.get(line))) {
                same("line " + line + " of " + what, got.get(line), want.get(line));
                return;
            }
        }
    }

    static void isTrue(String what, boolean got) {
        same(what, got, true);
    }

    /** Expects that a call throws an exception of exactly this class. */
    static void fails(String what, Class<? extends RuntimeException> due, Runnable call) {
        Object thrown = "nothing";
        try {
            call.run();
        } catch (RuntimeException e) {
            thrown = e.getClass();
        }
        same("what " + what + " throws", thrown, due);
    }

    static void throwsArgument(String what, Runnable call) {
        fails(what, IllegalArgumentException.class, call);
    }

    static void throwsState(String what, Runnable call) {
        fails(what, IllegalStateException.class, call);
    }

    static void throwsIndex(String what, Runnable call) {
        fails(what, IndexOutOfBoundsException.class, call);
    }

    static void throwsElement(String what, Runnable call) {
        fails(what, NoSuchElementException.class, call);
    }

    static void throwsUnsupported(String what, Runnable call) {
        fails(what, UnsupportedOperationException.class, call);
    }

    static void throwsArithmetic(String what, Runnable call) {
        fails(what, ArithmeticException.class, call);
    }

    /** Prints the faults and ends the program with 1 if there were any. */
    static void finish(String name) {
        for (String fault : FAULTS) {
            System.out.println(fault);
        }
        System.out.println(name + ": " + expectations + " expectations, " + FAULTS.size() + " faults");
        if (expectations == 0 || !FAULTS.isEmpty()) {
            System.exit(1);
        }
    }
}

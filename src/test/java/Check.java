import java.util.function.Function;
import java.util.function.Supplier;

/** Counts and prints the answers of a test that are not the ones that are due. */
final class Check {
    private static String about = "";
    private static int checked;
    private static int wrong;

    private Check() {
    }

    /** A call that may throw. */
    interface Call {
        Object answer();
    }

    /** The answer of a call as a text; throws.X, if it throws X. */
    static String told(Call call) {
        try {
            return String.valueOf(call.answer());
        } catch (RuntimeException e) {
            return "throws." + e.getClass().getSimpleName();
        }
    }

    /** What all answers from now on are about: it is printed ahead of each one that is wrong. */
    static void about(String what) {
        about = what;
    }

    static void same(String what, String due, String got) {
        checked++;
        if (!due.equals(got)) {
            wrong++;
            System.out.println(about + what + " answered " + got + ", due is " + due);
        }
    }

    static void same(String what, Object due, Call call) {
        same(what, String.valueOf(due), told(call));
    }

    /** A call that throws and changes nothing that the digest tells. */
    static void bad(BondDesk desk, String what, String exception, Call call) {
        long before = desk.digest();
        same(what, "throws." + exception + "Exception", told(call));
        same(what + " changes nothing", before, desk::digest);
    }

    static void badArgument(BondDesk desk, String what, Call call) {
        bad(desk, what, "IllegalArgument", call);
    }

    static void badIndex(BondDesk desk, String what, Call call) {
        bad(desk, what, "IndexOutOfBounds", call);
    }

    static void badState(BondDesk desk, String what, Call call) {
        bad(desk, what, "IllegalState", call);
    }

    /** A call that throws, behind which the desk is as one that was made alike and was not called. */
    static void refused(String what, String exception, Supplier<BondDesk> made, Function<BondDesk, Object> call) {
        BondDesk desk = made.get();
        same(what, "throws." + exception + "Exception", () -> call.apply(desk));
        same(what + " changes nothing", Desks.portrait(made.get()), Desks.portrait(desk));
    }

    static void refusedArgument(String what, Supplier<BondDesk> made, Function<BondDesk, Object> call) {
        refused(what, "IllegalArgument", made, call);
    }

    static void refusedIndex(String what, Supplier<BondDesk> made, Function<BondDesk, Object> call) {
        refused(what, "IndexOutOfBounds", made, call);
    }

    static void refusedState(String what, Supplier<BondDesk> made, Function<BondDesk, Object> call) {
        refused(what, "IllegalState", made, call);
    }

    static int checked() {
        return checked;
    }

    static int wrong() {
        return wrong;
    }

    /** Ends the test: with exit code 1, if an answer was not the one that is due. */
    static void end() {
        System.out.println(checked + " answers checked, " + wrong + " not as due");
        if (wrong != 0 || checked == 0) {
            System.exit(1);
        }
    }
}

import java.util.function.LongSupplier;

/** Counts and prints answers that are not as due; a call that throws is compared by its exception. */
final class Checks {
    private int made = 0;
    private int wrong = 0;

    /** The name of an exception's class is what its throwing answers. */
    static String answer(LongSupplier call) {
        try {
            return String.valueOf(call.getAsLong());
        } catch (RuntimeException e) {
            return "throws." + e.getClass().getSimpleName();
        }
    }

    /** For calls that answer nothing: 0 when nothing is thrown. */
    static String outcome(Runnable call) {
        return answer(() -> {
            call.run();
            return 0;
        });
    }

    static String answer(java.util.function.BooleanSupplier call) {
        return answer((LongSupplier) () -> call.getAsBoolean() ? 1 : 0);
    }

    boolean same(String what, String got, String due) {
        made++;
        if (got.equals(due)) {
            return true;
        }
        wrong++;
        System.out.println(what + " answered " + got + ", due is " + due);
        return false;
    }

    void same(String what, long got, long due) {
        same(what, String.valueOf(got), String.valueOf(due));
    }

    void holds(String what, boolean got) {
        same(what, String.valueOf(got), "true");
    }

    void fine(String what, Runnable call) {
        same(what, outcome(call), "0");
    }

    void badArgument(String what, Runnable call) {
        same(what, outcome(call), "throws.IllegalArgumentException");
    }

    void badState(String what, Runnable call) {
        same(what, outcome(call), "throws.IllegalStateException");
    }

    void badIndex(String what, Runnable call) {
        same(what, outcome(call), "throws.IndexOutOfBoundsException");
    }

    int wrong() {
        return wrong;
    }

    void end(String name) {
        System.out.println(name + ": " + made + " checks, " + wrong + " wrong");
        if (wrong != 0) {
            System.exit(1);
        }
    }
}

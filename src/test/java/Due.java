import java.util.function.Supplier;

/** Counts and prints the answers that are not the ones that are due. */
final class Due {
    private final String test;
    private int calls = 0;
    private int wrong = 0;
    private String part = "";

    Due(String test) {
        this.test = test;
    }

    void part(String name) {
        part = name;
    }

    int answers() {
        return calls;
    }

    /** A boolean is told as true or false, an exception as throws.ItsName, so that all answers compare alike. */
    static String answer(Supplier<Object> call) {
        try {
            return String.valueOf(call.get());
        } catch (RuntimeException e) {
            return "throws." + e.getClass().getSimpleName();
        }
    }

    void is(String what, Object want, Supplier<Object> call) {
        same(what, String.valueOf(want), answer(call));
    }

    void badIndex(String what, Supplier<Object> call) {
        same(what, "throws.IndexOutOfBoundsException", answer(call));
    }

    void badState(String what, Supplier<Object> call) {
        same(what, "throws.IllegalStateException", answer(call));
    }

    void badArgument(String what, Supplier<Object> call) {
        same(what, "throws.IllegalArgumentException", answer(call));
    }

    boolean same(String what, String want, String got) {
        calls++;
        if (got.equals(want)) {
            return true;
        }
        wrong++;
        System.out.println(part + ": " + what + " answered " + got + ", due is " + want);
        return false;
    }

    void end() {
        System.out.println(test + ": " + calls + " answers, " + wrong + " not as due");
        if (wrong != 0 || calls == 0) {
            System.exit(1);
        }
    }
}

import java.util.function.BooleanSupplier;
import java.util.function.IntSupplier;

/** Compares what calls answer or throw with what is due, and prints each that differs. */
final class Due {
    private String promise = "";
    private int checked = 0;
    private int wrong = 0;

    void promise(String name) {
        promise = name;
    }

    void answers(int want, IntSupplier call) {
        compare(Integer.toString(want), outcome(() -> Integer.toString(call.getAsInt())));
    }

    void is(boolean want, BooleanSupplier call) {
        compare(Boolean.toString(want), outcome(() -> Boolean.toString(call.getAsBoolean())));
    }

    void passes(Runnable call) {
        compare("void", outcome(call));
    }

    void refuses(Class<? extends RuntimeException> want, Runnable call) {
        compare("throws." + want.getSimpleName(), outcome(call));
    }

    void same(String want, String got) {
        compare(want, got);
    }

    /** Prints the sum and ends the program, with exit code 1 if an answer was wrong. */
    void end() {
        System.out.println(checked + " answers looked at, " + wrong + " not as due");
        System.exit(wrong == 0 && checked > 0 ? 0 : 1);
    }

    interface Telling {
        String tell();
    }

    /** The exception's very class counts: one below or above the one that is due is wrong. */
    static String outcome(Telling call) {
        try {
            return call.tell();
        } catch (RuntimeException e) {
            return "throws." + e.getClass().getSimpleName();
        }
    }

    private static String outcome(Runnable call) {
        return outcome(() -> {
            call.run();
            return "void";
        });
    }

    private void compare(String want, String got) {
        checked++;
        if (!want.equals(got)) {
            wrong++;
            System.out.println(promise + ": line " + callersLine() + " answered " + got + ", due is " + want);
        }
    }

    private static int callersLine() {
        return StackWalker.getInstance().walk(frames -> frames
                .filter(frame -> !frame.getClassName().equals("Due"))
                .findFirst().map(StackWalker.StackFrame::getLineNumber).orElse(0));
    }
}

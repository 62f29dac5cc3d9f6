import java.util.NoSuchElementException;
import java.util.function.BooleanSupplier;
import java.util.function.Consumer;
import java.util.function.IntSupplier;
import java.util.function.Supplier;

/** Compares what calls answer or throw with what is due, and prints each that differs. */
class Due {
    static final Class<NoSuchElementException> NO_ELEMENT = NoSuchElementException.class;
    static final Class<IllegalArgumentException> ARGUMENT = IllegalArgumentException.class;
    static final Class<IllegalStateException> STATE = IllegalStateException.class;
    static final int LOW = Integer.MIN_VALUE;
    static final int HIGH = Integer.MAX_VALUE;

    private String promise = "";
    private int checked = 0;
    private int wrong = 0;

    void promise(String name) {
        promise = name;
    }

    /**
     * One test by itself: a sentence of the document, and calls that answer otherwise if it is broken.
     * A test whose own preparing calls throw is wrong, but the tests behind it are run all the same.
     */
    void test(String sentence, Runnable body) {
        promise(sentence);
        int before = checked;
        try {
            body.run();
        } catch (RuntimeException e) {
            same("a test that ends", "one that throws " + e);
        }
        if (checked == before) {
            same("a test that looks at answers", "one that looks at none");
        }
    }

    void answers(int want, IntSupplier call) {
        compare(Integer.toString(want), outcome(() -> Integer.toString(call.getAsInt())));
    }

    void is(boolean want, BooleanSupplier call) {
        compare(Boolean.toString(want), outcome(() -> Boolean.toString(call.getAsBoolean())));
    }

    void passes(Runnable call) {
        compare("void", outcome(call));
    }

    void refuses(Class<? extends RuntimeException> want, Runnable call) {
        compare("throws." + want.getSimpleName(), outcome(call));
    }

    /** The call is refused, and all that the face tells of the sheet is as it was before it. */
    void refusesWhole(Class<? extends RuntimeException> want, Supplier<StyleSheet> sheet, Consumer<StyleSheet> call) {
        StyleSheet x = sheet.get();
        refuses(want, () -> call.accept(x));
        changesNothing(sheet, call);
    }

    void changesNothing(Supplier<StyleSheet> sheet, Consumer<StyleSheet> call) {
        String before = Told.of(sheet);
        String after = Told.of(() -> {
            StyleSheet x = sheet.get();
            outcome(() -> call.accept(x));
            return x;
        });
        same("nothing changed", before.equals(after) ? "nothing changed" : "something changed");
    }

    void same(String want, String got) {
        compare(want, got);
    }

    /** Prints the sum and ends the program, with exit code 1 if an answer was wrong. */
    void end() {
        System.out.println(checked + " answers looked at, " + wrong + " not as due");
        System.exit(wrong == 0 && checked > 0 ? 0 : 1);
    }

    interface Telling {
        String tell();
    }

    /** The exception's very class counts: one below or above the one that is due is wrong. */
    static String outcome(Telling call) {
        try {
            return call.tell();
        } catch (RuntimeException e) {
            return "throws." + e.getClass().getSimpleName();
        }
    }

    private static String outcome(Runnable call) {
        return outcome(() -> {
            call.run();
            return "void";
        });
    }

    private void compare(String want, String got) {
        checked++;
        if (!want.equals(got)) {
            wrong++;
            System.out.println(promise + ": line " + callersLine() + " answered " + got + ", due is " + want);
        }
    }

    private static int callersLine() {
        return StackWalker.getInstance().walk(frames -> frames
                .filter(frame -> !frame.getClassName().equals("Due"))
                .findFirst().map(StackWalker.StackFrame::getLineNumber).orElse(0));
    }
}

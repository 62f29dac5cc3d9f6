import java.util.ArrayList;
import java.util.List;
import java.util.function.Supplier;
import java.util.function.ToIntFunction;

/**
 * All that the face tells of a sheet, as one text. To ask it takes more calls than the 512 that an
 * object is used for, so each part is asked of a new object that was made by the same calls.
 */
final class Told {
    private static final int QUESTIONS_TO_ONE = 150;

    private final Supplier<StyleSheet> maker;
    private final StringBuilder told = new StringBuilder();

    private Told(Supplier<StyleSheet> maker) {
        this.maker = maker;
    }

    static String of(Supplier<StyleSheet> maker) {
        Told told = new Told(maker);
        told.askAll(questions());
        told.askForMarks();
        return told.told.toString();
    }

    private static List<ToIntFunction<StyleSheet>> questions() {
        List<ToIntFunction<StyleSheet>> questions = new ArrayList<>();
        for (int i = 0; i < 5; i++) {
            int what = i;
            questions.add(x -> x.count(what));
        }
        for (int i = 0; i < 64 * 5; i++) {
            int style = i / 5;
            int what = i % 5;
            questions.add(x -> x.style(style, what));
        }
        for (int i = 0; i < 64 * 24; i++) {
            int style = i / 24;
            int property = i % 24;
            questions.add(x -> x.value(style, property));
            questions.add(x -> x.giver(style, property));
        }
        for (int i = 0; i < 256 * 24; i++) {
            int set = i / 24;
            int property = i % 24;
            questions.add(x -> x.get(set, property));
        }
        for (int i = 0; i < 24; i++) {
            int property = i;
            questions.add(x -> x.resolve(0, -1, -1, property));
        }
        return questions;
    }

    private void askAll(List<ToIntFunction<StyleSheet>> questions) {
        StyleSheet x = maker.get();
        int asked = 0;
        for (ToIntFunction<StyleSheet> question : questions) {
            if (asked == QUESTIONS_TO_ONE) {
                x = maker.get();
                asked = 0;
            }
            ask(x, question);
            asked++;
        }
    }

    /** Which sets are marked shows only in what a sweep leaves. */
    private void askForMarks() {
        ask(maker.get(), x -> x.mark(0));
        for (int first = 0; first < 256; first += 128) {
            StyleSheet x = maker.get();
            ask(x, StyleSheet::sweep);
            for (int i = 0; i < 128; i++) {
                int set = first + i;
                ask(x, swept -> swept.size(set));
            }
        }
    }

    private void ask(StyleSheet x, ToIntFunction<StyleSheet> question) {
        told.append(Due.outcome(() -> Integer.toString(question.applyAsInt(x)))).append(' ');
    }
}

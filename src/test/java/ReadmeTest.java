import java.io.IOException;
import java.lang.reflect.InvocationTargetException;
import java.lang.reflect.Method;
import java.lang.reflect.Modifier;
import java.nio.charset.StandardCharsets;
import java.nio.file.Files;
import java.nio.file.Path;
import java.util.Arrays;
import java.util.HashMap;
import java.util.Map;
import java.util.regex.Matcher;
import java.util.regex.Pattern;

/**
 * README.md's example, read from the file itself, so that it can't come to tell what is no longer so;
 * and that README.md names every call of the face.
 */
final class ReadmeTest extends Due {
    private static final String BEGIN = "```java\n";
    private static final String END = "```\n";
    private static final String FIRST_LINE = "StyleSheet sheet = new StyleSheet();";

    /** A call, perhaps kept under a name, and the answer that its comment begins with, if it does. */
    private static final Pattern CALL =
            Pattern.compile("(?:int (\\w+) = )?sheet\\.(\\w+)\\(([^()]*)\\);(?:\\s*// (-?\\d+)?.*)?");

    private final StyleSheet sheet = new StyleSheet();
    private final Map<String, Integer> names = new HashMap<>();

    public static void main(String[] args) throws IOException {
        String readme = Files.readString(Path.of("README.md"), StandardCharsets.UTF_8);
        ReadmeTest t = new ReadmeTest();
        t.test("README.md: the example", () -> t.example(readme));
        t.test("README.md: every call is told", () -> t.everyCall(readme));
        t.end();
    }

    private void example(String readme) {
        int begin = readme.indexOf(BEGIN);
        int end = readme.indexOf(END, begin + BEGIN.length());
        is(true, () -> begin >= 0 && end > begin);
        String[] lines = readme.substring(begin + BEGIN.length(), end).split("\n+");
        same(FIRST_LINE, lines[0]);
        for (int i = 1; i < lines.length; i++) {
            line(lines[i]);
        }
    }

    private void line(String text) {
        Matcher call = CALL.matcher(text);
        if (!call.matches()) {
            same("a line that is a call", text);
            return;
        }
        String answer = outcome(() -> answer(call.group(2), call.group(3).split(", ")));
        boolean isNumber = answer.matches("-?\\d+");
        if (call.group(4) != null) {
            same(text + " answers " + call.group(4), text + " answers " + answer);
        } else {
            same(text + " passes", text + (isNumber || answer.equals("null") ? " passes" : " " + answer));
        }
        if (call.group(1) != null && isNumber) {
            names.put(call.group(1), Integer.valueOf(answer));
        }
    }

    private String answer(String name, String[] words) {
        Object[] arguments = Arrays.stream(words)
                .filter(word -> !word.isEmpty())
                .map(word -> names.containsKey(word) ? names.get(word) : Integer.valueOf(word))
                .toArray();
        Method method = Arrays.stream(StyleSheet.class.getMethods())
                .filter(m -> m.getName().equals(name) && m.getParameterCount() == arguments.length)
                .findFirst().orElseThrow();
        try {
            return String.valueOf(method.invoke(sheet, arguments));
        } catch (InvocationTargetException e) {
            return "throws." + e.getCause().getClass().getSimpleName();
        } catch (IllegalAccessException e) {
            return "is not to be called";
        }
    }

    private void everyCall(String readme) {
        for (Method m : StyleSheet.class.getDeclaredMethods()) {
            if (Modifier.isPublic(m.getModifiers())) {
                String row = "| `" + m.getName() + "(";
                same(row, readme.contains(row) ? row : "no row of " + m.getName());
            }
        }
    }
}

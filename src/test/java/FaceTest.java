import java.lang.reflect.Constructor;
import java.lang.reflect.Field;
import java.lang.reflect.Method;
import java.lang.reflect.Modifier;
import java.util.Arrays;
import java.util.TreeSet;
import java.util.stream.Collectors;

/** The public face: the document's constructor and methods with what they throw, and nothing else. */
final class FaceTest {
    private static final String NONE = "";
    private static final String N = "NoSuchElementException";
    private static final String A = "IllegalArgumentException";
    private static final String S = "IllegalStateException";

    private static final String[] FACE = {
        method("int make(int,int)", A, S),
        method("int drop(int)", N),
        method("boolean rebase(int,int)", N, A),
        method("void own(int,int,int)", N, A),
        method("int value(int,int)", N, A),
        method("int giver(int,int)", N, A),
        method("int style(int,int)", N, A),
        method("void usual(int,int)", A),
        method("int with(int,int,int)", N, A, S),
        method("int over(int,int)", N, S),
        method("int lean(int,int,int)", N, A, S),
        method("int get(int,int)", N, A),
        method("int size(int)"),
        method("int resolve(int,int,int,int)", N, A),
        method("int differ(int,int,int,int)", N, A),
        method("int mark(int)", N),
        method("int sweep()"),
        method("int count(int)"),
    };

    public static void main(String[] args) {
        Due due = new Due();
        due.promise("the public face");
        due.is(true, () -> Modifier.isFinal(StyleSheet.class.getModifiers()));
        due.is(true, () -> Modifier.isPublic(StyleSheet.class.getModifiers()));
        due.same(sorted(FACE), sorted(methodsInSight()));
        due.answers(1, () -> StyleSheet.class.getDeclaredConstructors().length);
        Constructor<?> constructor = StyleSheet.class.getDeclaredConstructors()[0];
        due.is(true, () -> Modifier.isPublic(constructor.getModifiers()));
        due.answers(0, constructor::getParameterCount);
        for (Field field : StyleSheet.class.getDeclaredFields()) {
            due.same("private " + field.getName(),
                    (Modifier.isPrivate(field.getModifiers()) ? "private " : "visible ") + field.getName());
        }
        due.same(NONE, privateMethodsNamedAsPublicOnes());
        due.end();
    }

    private static String method(String call, String... thrown) {
        return "public " + call + " throws " + String.join(",", thrown);
    }

    private static String[] methodsInSight() {
        return Arrays.stream(StyleSheet.class.getDeclaredMethods())
                .filter(m -> !Modifier.isPrivate(m.getModifiers()))
                .map(FaceTest::told)
                .toArray(String[]::new);
    }

    private static String told(Method m) {
        return Modifier.toString(m.getModifiers()) + " " + m.getReturnType().getName() + " " + m.getName()
                + "(" + names(m.getParameterTypes()) + ") throws " + names(m.getExceptionTypes());
    }

    private static String names(Class<?>[] types) {
        return Arrays.stream(types).map(Class::getSimpleName).collect(Collectors.joining(","));
    }

    private static String sorted(String[] lines) {
        return String.join("\n", new TreeSet<>(Arrays.asList(lines)));
    }

    private static String privateMethodsNamedAsPublicOnes() {
        TreeSet<String> open = new TreeSet<>();
        TreeSet<String> hidden = new TreeSet<>();
        for (Method m : StyleSheet.class.getDeclaredMethods()) {
            (Modifier.isPrivate(m.getModifiers()) ? hidden : open).add(m.getName());
        }
        hidden.retainAll(open);
        return String.join(",", hidden);
    }
}

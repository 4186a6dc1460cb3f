import java.lang.reflect.Constructor;
import java.lang.reflect.Field;
import java.lang.reflect.Method;
import java.lang.reflect.Modifier;
import java.util.Set;
import java.util.TreeSet;

/** The public face: the document's constructor and methods, and nothing else that can be seen. */
public final class FaceTest {
    private static final Check CHECK = new Check("FaceTest");

    public static void main(String[] args) {
        Set<String> due = new TreeSet<>(Set.of(
                "void key(int, int) throws IndexOutOfBoundsException",
                "void size(int) throws IllegalArgumentException",
                "void ready()",
                "int round(int, int) throws IndexOutOfBoundsException, IllegalStateException",
                "int box(int, int, boolean) throws IndexOutOfBoundsException, IllegalArgumentException",
                "void start(int, int) throws IndexOutOfBoundsException",
                "int put(int, int, int, int) throws IllegalStateException",
                "int cut(int) throws IllegalArgumentException",
                "int word(int) throws IndexOutOfBoundsException",
                "int run(int, boolean) throws IllegalArgumentException, IllegalStateException",
                "int seal(int) throws IndexOutOfBoundsException, IllegalStateException"));
        Set<String> seen = new TreeSet<>();
        Set<String> seenNames = new TreeSet<>();
        for (Method method : SlicedCipher.class.getDeclaredMethods()) {
            if (!Modifier.isPrivate(method.getModifiers())) {
                seen.add(text(method));
                seenNames.add(method.getName());
            }
        }
        CHECK.dueText("methods", seen.toString(), due.toString());
        for (Method method : SlicedCipher.class.getDeclaredMethods()) {
            if (Modifier.isPrivate(method.getModifiers())) {
                CHECK.due("private " + method.getName() + " bears a public name",
                        seenNames.contains(method.getName()) ? 1 : 0, 0);
            }
        }
        for (Field field : SlicedCipher.class.getDeclaredFields()) {
            CHECK.due(field.getName() + " is private", Modifier.isPrivate(field.getModifiers()) ? 1 : 0, 1);
            CHECK.due(field.getName() + " is no static state", Modifier.isStatic(field.getModifiers())
                    && !Modifier.isFinal(field.getModifiers()) ? 1 : 0, 0);
        }
        Constructor<?>[] constructors = SlicedCipher.class.getDeclaredConstructors();
        CHECK.due("constructors", constructors.length, 1);
        CHECK.dueText("constructor", constructors[0].toString(), "public SlicedCipher()");
        CHECK.due("class", SlicedCipher.class.getModifiers(), Modifier.PUBLIC | Modifier.FINAL);
        CHECK.end();
    }

    private static String text(Method method) {
        return names(method.getReturnType()) + " " + method.getName() + "(" + names(method.getParameterTypes())
                + ")" + (method.getExceptionTypes().length == 0 ? "" : " throws ")
                + names(method.getExceptionTypes());
    }

    private static String names(Class<?>... types) {
        StringBuilder text = new StringBuilder();
        for (Class<?> type : types) {
            text.append(text.length() == 0 ? "" : ", ").append(type.getSimpleName());
        }
        return text.toString();
    }
}

import java.lang.reflect.Constructor;
import java.lang.reflect.Field;
import java.lang.reflect.Method;
import java.lang.reflect.Modifier;
import java.util.Set;
import java.util.TreeSet;

/** "The public face": what others can see of the class, word by word, and nothing beside it. */
final class FaceTest {
    private static final String OUT = "IndexOutOfBoundsException", ILLEGAL = "IllegalArgumentException";
    private static final String[] FACE = {
        "public static final int NONE",
        "public static final int WRONG",
        "public static final int FULL",
        "public MeasuredTensors()",
        "public void begin(int) throws " + ILLEGAL,
        "public int number(int, int) throws " + ILLEGAL,
        "public int made(boolean, int, int, int, int, int) throws " + ILLEGAL,
        "public int index(int, int, int, int, int, int) throws " + ILLEGAL + ", UnsupportedOperationException",
        "public int pair(int, int, int) throws " + OUT + ", " + ILLEGAL,
        "public int turned(int) throws " + OUT,
        "public int over(int, int, int) throws " + OUT + ", " + ILLEGAL,
        "public int call(int, int, int, int, int, int, int) throws " + ILLEGAL + ", " + OUT,
        "public int reshape(int, int, int, int, int, int) throws " + OUT + ", " + ILLEGAL,
        "public int loss(int) throws " + OUT + ", " + ILLEGAL,
        "public int told(int, int) throws " + OUT + ", " + ILLEGAL,
        "public long divisor(int, boolean) throws " + OUT,
        "public int all(int)",
    };

    public static void main(String[] args) {
        Due due = new Due("Face");
        due.isSame("the class", "public final class MeasuredTensors", MeasuredTensors.class.toGenericString());
        due.isSame("its superclass", "java.lang.Object", MeasuredTensors.class.getSuperclass().getName());
        due.is("its interfaces", 0, MeasuredTensors.class.getInterfaces().length);
        due.isSame("the face", String.join("\n    ", new TreeSet<>(Set.of(FACE))), String.join("\n    ", seen()));
        due.is("NONE", -1, MeasuredTensors.NONE);
        due.is("WRONG", -5, MeasuredTensors.WRONG);
        due.is("FULL", -8, MeasuredTensors.FULL);
        due.end();
    }

    /** All members that are not private. */
    private static Set<String> seen() {
        Set<String> seen = new TreeSet<>();
        for (Field field : MeasuredTensors.class.getDeclaredFields()) {
            if (!Modifier.isPrivate(field.getModifiers())) {
                seen.add(Modifier.toString(field.getModifiers()) + " " + field.getType() + " " + field.getName());
            }
        }
        for (Constructor<?> constructor : MeasuredTensors.class.getDeclaredConstructors()) {
            if (!Modifier.isPrivate(constructor.getModifiers())) {
                seen.add(constructor.toGenericString());
            }
        }
        for (Method method : MeasuredTensors.class.getDeclaredMethods()) {
            if (!Modifier.isPrivate(method.getModifiers())) {
                seen.add(Modifier.toString(method.getModifiers()) + " " + method.getReturnType() + " "
                        + method.getName() + "(" + names(method.getParameterTypes()) + ")" + thrown(method));
            }
        }
        return seen;
    }

    private static String thrown(Method method) {
        String names = names(method.getExceptionTypes());
        return names.isEmpty() ? "" : " throws " + names;
    }

    private static String names(Class<?>[] types) {
        StringBuilder text = new StringBuilder();
        for (Class<?> type : types) {
            text.append(text.length() == 0 ? "" : ", ").append(type.getSimpleName());
        }
        return text.toString();
    }
}

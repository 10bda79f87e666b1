import java.lang.reflect.Field;
import java.lang.reflect.Member;
import java.lang.reflect.Method;
import java.lang.reflect.Modifier;
import java.util.Arrays;
import java.util.Set;
import java.util.TreeSet;

/** The public face of the document, and nothing beside it that others can see. */
final class FaceTest {
    private static final String[] FACE = {
        "int NONE", "int WRONG", "int FULL", "void begin(int)", "int number(int, int)",
        "int made(boolean, int, int, int, int, int)", "int index(int, int, int, int, int, int)",
        "int pair(int, int, int)", "int turned(int)", "int over(int, int, int)",
        "int call(int, int, int, int, int, int, int)", "int reshape(int, int, int, int, int, int)", "int loss(int)",
        "int told(int, int)", "long divisor(int, boolean)", "int all(int)",
    };

    public static void main(String[] args) {
        Due due = new Due("Face");
        Class<?> face = MeasuredTensors.class;
        Set<String> seen = new TreeSet<>();
        Set<String> hidden = new TreeSet<>();
        for (Field field : face.getDeclaredFields()) {
            String type = field.getType().getSimpleName();
            note(due, field, type + " " + field.getName(), seen);
            due.is("static and not final: " + field.getName(), 0,
                    Modifier.isStatic(field.getModifiers()) && !Modifier.isFinal(field.getModifiers()) ? 1 : 0);
        }
        for (Method method : face.getDeclaredMethods()) {
            note(due, method, signature(method), seen);
            if (!Modifier.isPublic(method.getModifiers())) {
                hidden.add(method.getName());
            }
            due.is("parameters of " + method.getName() + " above seven", 0, method.getParameterCount() > 7 ? 1 : 0);
        }
        Set<String> promised = new TreeSet<>(Arrays.asList(FACE));
        due.is("the face is that of the document", 1, seen.equals(promised) ? 1 : 0);
        for (String member : promised) {
            due.is("private method called like " + member, 0, hidden.contains(nameIn(member)) ? 1 : 0);
        }
        due.is("constructors", 1, face.getDeclaredConstructors().length);
        due.is("public constructors", 1, face.getConstructors().length);
        due.is("public final class", Modifier.PUBLIC | Modifier.FINAL, face.getModifiers());
        due.is("NONE", -1, MeasuredTensors.NONE);
        due.is("WRONG", -5, MeasuredTensors.WRONG);
        due.is("FULL", -8, MeasuredTensors.FULL);
        for (Class<?> inside : face.getDeclaredClasses()) {
            due.is("static: " + inside.getName(), 1, Modifier.isStatic(inside.getModifiers()) ? 1 : 0);
        }
        due.end();
    }

    private static void note(Due due, Member member, String name, Set<String> seen) {
        boolean isPrivate = Modifier.isPrivate(member.getModifiers());
        boolean isPublic = Modifier.isPublic(member.getModifiers());
        due.is("neither private nor public: " + name, 1, isPrivate || isPublic ? 1 : 0);
        if (isPublic) {
            seen.add(name);
        }
    }

    private static String nameIn(String member) {
        int behind = member.indexOf('(');
        return member.substring(member.indexOf(' ') + 1, behind < 0 ? member.length() : behind);
    }

    private static String signature(Method method) {
        StringBuilder text = new StringBuilder();
        text.append(method.getReturnType().getSimpleName()).append(' ').append(method.getName()).append('(');
        String between = "";
        for (Class<?> type : method.getParameterTypes()) {
            text.append(between).append(type.getSimpleName());
            between = ", ";
        }
        return text.append(')').toString();
    }
}

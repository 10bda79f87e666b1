import java.io.IOException;
import java.lang.reflect.InvocationTargetException;
import java.lang.reflect.Method;
import java.lang.reflect.Modifier;
import java.nio.file.Files;
import java.nio.file.Path;
import java.util.Set;
import java.util.TreeSet;
import java.util.regex.Matcher;
import java.util.regex.Pattern;

/** The examples of README.md, read where .ci/run stands: each answers what it says, and no method lacks one. */
final class ReadmeTest {
    private static final Pattern EXAMPLE = Pattern.compile("x\\.(\\w+)\\((.*)\\); +// (->|throws) (\\w+)(:.*)?");
    private static final String START = "MeasuredTensors x = new MeasuredTensors();";

    private final Due due = new Due("Readme");
    private final Set<String> answered = new TreeSet<>();
    private MeasuredTensors x;

    public static void main(String[] args) throws IOException {
        ReadmeTest test = new ReadmeTest();
        boolean isExample = false;
        for (String line : Files.readAllLines(Path.of("README.md"))) {
            if (line.startsWith("```")) {
                isExample = line.equals("```java");
            } else if (isExample) {
                test.play(line);
            }
        }
        test.everyMethodHasOne();
        test.due.end();
    }

    private void play(String line) {
        if (line.equals(START)) {
            x = new MeasuredTensors();
            return;
        }
        Matcher example = EXAMPLE.matcher(line);
        boolean isOne = example.matches();
        due.is("an example with what it answers: " + line, 1, isOne && x != null ? 1 : 0);
        if (isOne && x != null) {
            String due = example.group(4);
            this.due.isSame(line, due, named(answer(example.group(1), example.group(2).split(", ")), due));
            if (example.group(3).equals("->")) {
                answered.add(example.group(1));
            }
        }
    }

    /** NONE, WRONG and FULL stand for their numbers. */
    private static String named(String answer, String due) {
        boolean isNamed = due.equals("NONE") && answer.equals("" + MeasuredTensors.NONE)
                || due.equals("WRONG") && answer.equals("" + MeasuredTensors.WRONG)
                || due.equals("FULL") && answer.equals("" + MeasuredTensors.FULL);
        return isNamed ? due : answer;
    }

    private String answer(String name, String[] values) {
        for (Method method : MeasuredTensors.class.getDeclaredMethods()) {
            if (method.getName().equals(name) && method.getParameterCount() == values.length) {
                return answer(method, values);
            }
        }
        return "no method " + name;
    }

    private String answer(Method method, String[] values) {
        Object[] given = new Object[values.length];
        for (int k = 0; k < values.length; k++) {
            boolean isTruth = method.getParameterTypes()[k] == boolean.class;
            given[k] = isTruth ? (Object) Boolean.valueOf(values[k]) : (Object) Integer.valueOf(values[k]);
        }
        try {
            Object got = method.invoke(x, given);
            return got == null ? "nothing" : got.toString();
        } catch (InvocationTargetException e) {
            return e.getCause().getClass().getSimpleName();
        } catch (IllegalAccessException e) {
            return "hidden";
        }
    }

    private void everyMethodHasOne() {
        Set<String> face = new TreeSet<>();
        for (Method method : MeasuredTensors.class.getDeclaredMethods()) {
            if (Modifier.isPublic(method.getModifiers())) {
                face.add(method.getName());
            }
        }
        due.isSame("the methods that answer in an example", face.toString(), answered.toString());
    }
}

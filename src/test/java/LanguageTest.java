import java.io.IOException;
import java.lang.reflect.Field;
import java.lang.reflect.Method;
import java.lang.reflect.Modifier;
import java.nio.file.Files;
import java.nio.file.Path;
import java.util.ArrayList;
import java.util.HashSet;
import java.util.List;
import java.util.Set;
import java.util.regex.Matcher;
import java.util.regex.Pattern;

/** What can be seen of LANGUAGE.md's rules from outside and in the text; it is read where .ci/run stands. */
final class LanguageTest {
    private static final Path SOURCE = Path.of("src", "main", "java", "MeasuredTensors.java");

    private final Due due = new Due("Language");
    private final List<Class<?>> classes = new ArrayList<>();
    private final String text;
    /** Without remarks and written texts. */
    private final String code;

    private LanguageTest() throws IOException {
        text = Files.readString(SOURCE);
        code = text.replaceAll("(?s)/\\*.*?\\*/", "").replaceAll("//[^\n]*", "").replaceAll("\"[^\"\n]*\"", "\"\"");
        classes.add(MeasuredTensors.class);
        classes.addAll(List.of(MeasuredTensors.class.getDeclaredClasses()));
    }

    public static void main(String[] args) throws IOException {
        LanguageTest test = new LanguageTest();
        test.names();
        test.classesInside();
        test.fields();
        test.library();
        test.exceptions();
        test.sizes();
        test.due.end();
    }

    private void isNone(String what, boolean found) {
        due.is(what, 0, found ? 1 : 0);
    }

    /** Rule 1: "No private method bears the name of a public one." */
    private void names() {
        due.about("rule 1");
        Set<String> open = new HashSet<>();
        for (Method method : MeasuredTensors.class.getDeclaredMethods()) {
            if (Modifier.isPublic(method.getModifiers())) {
                open.add(method.getName());
            }
        }
        for (Class<?> each : classes) {
            for (Method method : each.getDeclaredMethods()) {
                boolean isHidden = !Modifier.isPublic(method.getModifiers());
                isNone("hidden method " + method.getName(), isHidden && open.contains(method.getName()));
            }
        }
    }

    /** Rules 1 and 2: inside are static classes, private or package-visible; no lambda, no method reference. */
    private void classesInside() {
        due.about("rules 1 and 2");
        for (Class<?> inside : MeasuredTensors.class.getDeclaredClasses()) {
            int modifiers = inside.getModifiers();
            due.is("static: " + inside, 1, Modifier.isStatic(modifiers) ? 1 : 0);
            isNone("open: " + inside, Modifier.isPublic(modifiers) || Modifier.isProtected(modifiers));
        }
        isNone("lambda", code.contains("->"));
        isNone("method reference", code.contains("::"));
    }

    /** Rules 3, 5 and 11: static fields are final constants; some twenty fields beside them. */
    private void fields() {
        due.about("rules 3, 5 and 11");
        for (Class<?> each : classes) {
            int count = 0;
            for (Field field : each.getDeclaredFields()) {
                Class<?> type = field.getType();
                if (Modifier.isStatic(field.getModifiers())) {
                    due.is("final: " + field, 1, Modifier.isFinal(field.getModifiers()) ? 1 : 0);
                    due.is("constant: " + field, 1, type == int.class || type == long.class ? 1 : 0);
                } else {
                    count++;
                    Class<?> single = type.isArray() ? type.getComponentType() : type;
                    due.is("type of " + field, 1, single.isPrimitive() || classes.contains(single) ? 1 : 0);
                }
            }
            isNone("more than twenty fields in " + each, count > 20);
        }
        isNone("static initialiser", code.matches("(?s).*\\bstatic\\s*\\{.*"));
    }

    /** Rule 4 and 13: of the library, Math over int and long alone; no function whose name ends in Exact. */
    private void library() {
        due.about("rules 4 and 13");
        isNone("package or import", code.matches("(?s).*\\b(package|import)\\b.*"));
        Matcher calls = Pattern.compile("\\b([A-Z]\\w*)\\s*\\.\\s*(\\w+)").matcher(code);
        while (calls.find()) {
            due.is(calls.group() + " is Math.max or Math.min", 1, calls.group().matches("Math\\.(max|min)") ? 1 : 0);
        }
        isNone("Exact", code.contains("Exact"));
    }

    /** Rule 6: "throw new E("a written text")" of what the document names; none is caught, none is in a constructor. */
    private void exceptions() {
        due.about("rule 6");
        Matcher thrown = Pattern.compile("\\bthrow\\b([^;]*);").matcher(code);
        int count = 0;
        while (thrown.find()) {
            count++;
            due.is("throw" + thrown.group(1), 1, thrown.group(1).matches(" new (IllegalArgumentException"
                    + "|IndexOutOfBoundsException|UnsupportedOperationException)\\(\"\"\\)") ? 1 : 0);
        }
        due.is("something is thrown", 1, count > 0 ? 1 : 0);
        for (String word : new String[] {"try", "catch", "finally", "synchronized", "assert", "instanceof", "yield"}) {
            isNone(word, code.matches("(?s).*\\b" + word + "\\b.*"));
        }
        due.is("the constructor is empty", 1,
                code.matches("(?s).*public MeasuredTensors\\(\\) \\{\\s*\\}.*") ? 1 : 0);
    }

    /** Rule 11: "at most seven parameters. Methods stay short (some sixty lines) .. at most some twelve classes". */
    private void sizes() {
        due.about("rule 11");
        isNone("more than twelve classes", classes.size() > 12);
        for (Class<?> each : classes) {
            for (Method method : each.getDeclaredMethods()) {
                isNone("more than seven parameters: " + method.getName(), method.getParameterCount() > 7);
            }
        }
        String[] lines = text.split("\n");
        int methods = 0;
        for (int k = 0; k < lines.length; k++) {
            String indent = lines[k].replaceAll("\\S.*", "");
            boolean isHead = lines[k].matches(" {4}(    )?[a-zA-Z].*\\(.*\\).*") && !lines[k].endsWith(";")
                    && !lines[k].matches("\\s*(if|for|while|switch|return|throw)\\b.*");
            if (isHead) {
                int end = k;
                while (end < lines.length && !lines[end].equals(indent + "}")) {
                    end++;
                }
                methods++;
                isNone("more than sixty lines: " + lines[k].trim(), end - k + 1 > 60);
            }
        }
        due.is("methods were found", 1, methods > 40 ? 1 : 0);
    }
}

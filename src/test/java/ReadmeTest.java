import java.io.IOException;
import java.lang.reflect.InvocationTargetException;
import java.lang.reflect.Method;
import java.lang.reflect.Modifier;
import java.nio.file.DirectoryStream;
import java.nio.file.Files;
import java.nio.file.Path;
import java.util.List;
import java.util.TreeSet;
import java.util.regex.Matcher;
import java.util.regex.Pattern;

/** README.md: its example is run as it stands there, and it names every call and every test. */
final class ReadmeTest {
    private static final String MAKING = "PredicateMachine machine = new PredicateMachine();";
    // The name, the arguments, and what stands behind "//" up to a colon.
    private static final Pattern CALL = Pattern.compile("machine\\.(\\w+)\\(([^()]*)\\);(?:\\s*// ([^:]+)(?::.*)?)?");

    private final Expect expect = new Expect("ReadmeTest");
    private final TreeSet<String> called = new TreeSet<>();
    private final TreeSet<String> face = new TreeSet<>();
    private PredicateMachine machine;

    public static void main(String[] args) throws IOException {
        ReadmeTest test = new ReadmeTest();
        List<String> lines = Files.readAllLines(Path.of("README.md"));
        test.runExamples(lines);
        test.namesTheFace(String.join("\n", lines));
        test.namesTheTests(String.join("\n", lines));
        test.expect.end();
    }

    private void runExamples(List<String> lines) {
        boolean inside = false;
        for (String line : lines) {
            if (line.startsWith("```")) {
                inside = line.equals("```java");
            } else if (inside && !line.isEmpty() && !line.startsWith("//")) {
                runLine(line);
            }
        }
    }

    private void runLine(String line) {
        if (line.equals(MAKING)) {
            machine = new PredicateMachine();
            return;
        }
        Matcher call = CALL.matcher(line);
        expect.same("a line that can be run: " + line, call.matches(), true);
        if (!call.matches()) {
            return;
        }
        Method method = methodNamed(call.group(1));
        String due = call.group(3) == null ? "null" : call.group(3);
        expect.same(line, method == null ? "no such method" : answer(method, call.group(2)), due);
        called.add(call.group(1));
    }

    private static Method methodNamed(String name) {
        for (Method method : PredicateMachine.class.getDeclaredMethods()) {
            if (Modifier.isPublic(method.getModifiers()) && method.getName().equals(name)) {
                return method;
            }
        }
        return null;
    }

    // A method that answers nothing gives null here, and has no comment in the example.
    private String answer(Method method, String written) {
        String[] texts = written.isEmpty() ? new String[0] : written.split(", ");
        Class<?>[] types = method.getParameterTypes();
        if (texts.length != types.length) {
            return "other arguments are due";
        }
        Object[] values = new Object[texts.length];
        for (int i = 0; i < texts.length; i++) {
            values[i] = types[i] == int.class ? (Object) Integer.valueOf(texts[i])
                    : types[i] == long.class ? (Object) Long.valueOf(texts[i]) : (Object) Boolean.valueOf(texts[i]);
        }
        try {
            return String.valueOf(method.invoke(machine, values));
        } catch (InvocationTargetException e) {
            return "throws " + e.getCause().getClass().getSimpleName();
        } catch (IllegalAccessException e) {
            return "cannot be called";
        }
    }

    private void namesTheFace(String readme) {
        for (Method method : PredicateMachine.class.getDeclaredMethods()) {
            if (Modifier.isPublic(method.getModifiers())) {
                face.add(method.getName());
                String row = "| `" + method.getReturnType() + " " + method.getName() + "(";
                expect.same("a row for " + method.getName(), readme.contains(row), true);
            }
        }
        expect.same("a row for the constructor", readme.contains("| `PredicateMachine()` |"), true);
        expect.same("the methods of the example", called.toString(), face.toString());
    }

    private void namesTheTests(String readme) throws IOException {
        try (DirectoryStream<Path> tests = Files.newDirectoryStream(Path.of("src/test/java"), "*Test.java")) {
            for (Path test : tests) {
                String name = test.getFileName().toString().replace(".java", "");
                boolean named = Pattern.compile("\\| (?:\\w+, )*" + name + "(?:, \\w+)* \\|").matcher(readme).find();
                expect.same(name + " is named", named, true);
            }
        }
    }
}

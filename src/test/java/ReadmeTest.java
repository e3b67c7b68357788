import java.io.IOException;
import java.lang.reflect.InvocationTargetException;
import java.lang.reflect.Method;
import java.lang.reflect.Modifier;
import java.nio.file.Files;
import java.nio.file.Path;
import java.util.Set;
import java.util.TreeSet;
import java.util.regex.Matcher;
import java.util.regex.Pattern;

/** The calls of README.md answer as it says, and it leaves out no method and no test; run in the project's folder. */
public final class ReadmeTest {
    private static final String MADE = "Triplegarth store = new Triplegarth();";
    // What stands behind the answer's colon is for the reader.
    private static final Pattern CALL = Pattern.compile("store\\.(\\w+)\\((.*)\\); +// ([^:]+)(: .*)?");
    private static final Check CHECK = new Check();

    private Triplegarth store = null;
    private final Set<String> called = new TreeSet<>();

    public static void main(String[] args) throws IOException {
        String readme = Files.readString(Path.of("README.md"));
        new ReadmeTest().allOf(readme);
        for (String file : Path.of("src/test/java").toFile().list()) {
            String name = file.replace(".java", "");
            CHECK.due("tells of " + name, true, () -> readme.contains("`" + name) || !name.endsWith("Test"));
        }
        CHECK.finish("ReadmeTest");
    }

    private void allOf(String readme) {
        boolean isCode = false;
        for (String line : readme.split("\n")) {
            if (line.startsWith("```")) {
                isCode = line.equals("```java");
            } else if (isCode && line.equals(MADE)) {
                store = new Triplegarth();
            } else if (isCode) {
                told(line);
            }
        }
        Set<String> face = new TreeSet<>();
        for (Method method : Triplegarth.class.getDeclaredMethods()) {
            if (Modifier.isPublic(method.getModifiers())) {
                face.add(method.getName());
                CHECK.due("tells of " + method.getName(), true, () -> readme.contains("| `" + method.getName() + "("));
            }
        }
        CHECK.due("every method, with an example", face, () -> called);
    }

    private void told(String line) {
        Matcher call = CALL.matcher(line);
        boolean isCall = call.matches();
        CHECK.due("a call with its answer: " + line, true, () -> isCall);
        if (isCall) {
            CHECK.due(line, call.group(3), () -> answer(call.group(1), call.group(2)));
        }
    }

    private Object answer(String name, String told) {
        for (Method method : Triplegarth.class.getMethods()) {
            if (method.getName().equals(name)) {
                called.add(name);
                return made(method, told.isEmpty() ? new String[0] : told.split(", "));
            }
        }
        return "no such method";
    }

    private Object made(Method method, String[] told) {
        Object[] arguments = new Object[told.length];
        for (int i = 0; i < told.length; i++) {
            arguments[i] = told[i].startsWith("'") ? (Object) told[i].charAt(1)
                    : told[i].equals("true") || told[i].equals("false") ? (Object) told[i].equals("true")
                    : (Object) Integer.parseInt(told[i]);
        }
        try {
            return method.invoke(store, arguments);
        } catch (InvocationTargetException thrown) {
            return "throws " + thrown.getCause().getClass().getSimpleName();
        } catch (IllegalAccessException hidden) {
            return hidden;
        }
    }
}

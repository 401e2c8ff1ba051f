import java.io.File;
import java.lang.reflect.Method;
import java.lang.reflect.Modifier;
import java.nio.file.Files;
import java.nio.file.Path;
import java.util.regex.Matcher;
import java.util.regex.Pattern;

/** What README.md says: each call of its example answers so, and no method or test is left out. */
public final class ReadmeTest {
    private static final Pattern CALL = Pattern.compile("x\\.(\\w+)\\((.*)\\);\\s+// (\"[^\"]*\"|[^:]+)(:.*)?");

    public static void main(String[] args) throws Exception {
        String text = Files.readString(Path.of("README.md"));
        example(text);
        for (Method method : Gapline.class.getDeclaredMethods()) {
            if (Modifier.isPublic(method.getModifiers())) {
                Check.same("README.md names " + method.getName(), text.contains("`" + method.getName() + "`"), true);
            }
        }
        File[] tests = new File("src/test/java").listFiles((folder, name) -> name.endsWith("Test.java"));
        for (File test : tests) {
            String name = test.getName().replace(".java", "");
            Check.same("README.md names " + name, text.contains("`" + name + "`"), true);
        }
        Check.end();
    }

    private static void example(String text) throws Exception {
        Gapline x = new Gapline();
        int calls = 0;
        for (String line : text.split("\n")) {
            Matcher call = CALL.matcher(line);
            if (call.matches()) {
                calls++;
                String answer = String.valueOf(answer(x, call.group(1), call.group(2)));
                Check.same("README.md: " + line, answer, call.group(3).replace("\"", "").strip());
            } else {
                Check.same("README.md, a call without an answer: " + line, line.startsWith("x."), false);
            }
        }
        Check.same("README.md has an example", calls > 0, true);
    }

    /** No two methods of the face have one name, so the name alone finds the method. */
    private static Object answer(Gapline x, String name, String written) throws Exception {
        String[] parts = written.isEmpty() ? new String[0] : written.split(",\\s*");
        for (Method method : Gapline.class.getDeclaredMethods()) {
            if (Modifier.isPublic(method.getModifiers()) && method.getName().equals(name)) {
                Object[] values = new Object[parts.length];
                for (int i = 0; i < parts.length; i++) {
                    values[i] = value(parts[i], method.getParameterTypes()[i]);
                }
                return method.invoke(x, values);
            }
        }
        return "no such method";
    }

    private static Object value(String written, Class<?> type) {
        if (type == boolean.class) {
            return Boolean.valueOf(written);
        }
        return Integer.valueOf(written);
    }
}

import java.lang.reflect.Constructor;
import java.lang.reflect.Field;
import java.lang.reflect.Method;
import java.lang.reflect.Modifier;
import java.nio.file.Files;
import java.nio.file.Path;
import java.util.ArrayList;
import java.util.List;
import java.util.Set;
import java.util.TreeSet;

/** The public face, as the document prints it, and those rules of LANGUAGE.md that can be seen. */
public final class FaceTest {
    public static void main(String[] args) throws Exception {
        face();
        nothingElseToSee();
        nestedClasses();
        source();
        Check.end();
    }

    private static void face() throws Exception {
        Set<String> due = new TreeSet<>();
        boolean isFace = false;
        for (String line : Files.readAllLines(Path.of("..", "shared", "DOC.md"))) {
            String text = line.strip();
            if (text.equals("```")) {
                isFace = false;
            } else if (text.startsWith("public final class")) {
                isFace = true;
            } else if (isFace && text.endsWith(";")) {
                due.add(text.substring(0, text.length() - 1));
            }
        }
        Set<String> told = new TreeSet<>();
        for (Constructor<?> made : Gapline.class.getConstructors()) {
            told.add("public " + made.getName() + "(" + listed(made.getParameterTypes()) + ")");
        }
        for (Method method : Gapline.class.getDeclaredMethods()) {
            if (Modifier.isPublic(method.getModifiers())) {
                told.add(signature(method));
            }
        }
        Set<String> bare = new TreeSet<>();
        for (String text : due) {
            bare.add(text.replaceAll("(int|boolean) [a-zA-Z]+(?=[,)])", "$1"));
        }
        Check.same("how many members the face has", bare.size(), 53);
        Check.same("the face", told, bare);
        int modifiers = Gapline.class.getModifiers();
        Check.same("public and final", Modifier.isPublic(modifiers) && Modifier.isFinal(modifiers), true);
    }

    private static String signature(Method method) {
        String thrown = listed(method.getExceptionTypes());
        return "public " + method.getReturnType().getSimpleName() + " " + method.getName()
                + "(" + listed(method.getParameterTypes()) + ")"
                + (thrown.isEmpty() ? "" : " throws " + thrown);
    }

    private static String listed(Class<?>[] types) {
        List<String> names = new ArrayList<>();
        for (Class<?> type : types) {
            names.add(type.getSimpleName());
        }
        return String.join(", ", names);
    }

    private static void nothingElseToSee() {
        Set<String> open = new TreeSet<>();
        for (Method method : Gapline.class.getDeclaredMethods()) {
            if (Modifier.isPublic(method.getModifiers())) {
                open.add(method.getName());
            }
        }
        for (Method method : Gapline.class.getDeclaredMethods()) {
            int modifiers = method.getModifiers();
            if (!Modifier.isPublic(modifiers)) {
                Check.same("private: " + method.getName(), Modifier.isPrivate(modifiers), true);
                Check.same("a name of the face: " + method.getName(), open.contains(method.getName()), false);
            }
        }
        for (Field field : Gapline.class.getDeclaredFields()) {
            Check.same("private: " + field.getName(), Modifier.isPrivate(field.getModifiers()), true);
        }
    }

    private static void nestedClasses() {
        Class<?>[] inside = Gapline.class.getDeclaredClasses();
        Check.same("at most 11 classes inside", inside.length <= 11, true);
        staticFieldsAreFinal(Gapline.class);
        for (Class<?> nested : inside) {
            Check.same("static: " + nested, Modifier.isStatic(nested.getModifiers()), true);
            Check.same("not public: " + nested, Modifier.isPublic(nested.getModifiers()), false);
            staticFieldsAreFinal(nested);
        }
    }

    private static void staticFieldsAreFinal(Class<?> type) {
        for (Field field : type.getDeclaredFields()) {
            if (Modifier.isStatic(field.getModifiers())) {
                Check.same("final: " + field, Modifier.isFinal(field.getModifiers()), true);
            }
        }
    }

    private static void source() throws Exception {
        String[] ruledOut = {
            "->", "::", "try", "catch", "finally", "import", "package", "instanceof", "synchronized",
            "assert", "Exact", "+ \"", "\" +", "System.", "Integer.", "Long.",
        };
        List<String> lines = Files.readAllLines(Path.of("src", "main", "java", "Gapline.java"));
        int start = 0;
        for (int i = 0; i < lines.size(); i++) {
            String line = lines.get(i);
            String code = line.strip().startsWith("*") || line.strip().startsWith("/") ? "" : line;
            for (String word : ruledOut) {
                Check.same(word + " in line " + (i + 1), code.contains(word), false);
            }
            Check.same("ASCII alone in line " + (i + 1), code.chars().allMatch(c -> c < 127), true);
            if (line.isBlank()) {
                start = i;
            }
            Check.same("a method of 60 lines at most, line " + (i + 1), i - start <= 60, true);
        }
    }
}

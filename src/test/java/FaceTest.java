import java.lang.reflect.Constructor;
import java.lang.reflect.Method;
import java.lang.reflect.Modifier;
import java.nio.file.Files;
import java.nio.file.Path;
import java.util.ArrayList;
import java.util.List;
import java.util.Set;
import java.util.TreeSet;

/** The public face, as the document prints it. */
public final class FaceTest {
    public static void main(String[] args) throws Exception {
        Set<String> due = printed();
        Check.same("how many members the face has", due.size(), 53);
        Check.same("the face", told(), due);
        int modifiers = Gapline.class.getModifiers();
        Check.same("public and final", Modifier.isPublic(modifiers) && Modifier.isFinal(modifiers), true);
        Check.same("without a package", Gapline.class.getPackageName(), "");
        Check.end();
    }

    /** The lines of the document's first code block, without the parameters' names. */
    private static Set<String> printed() throws Exception {
        Set<String> due = new TreeSet<>();
        boolean isFace = false;
        for (String line : Files.readAllLines(Path.of("..", "shared", "DOC.md"))) {
            String text = line.strip();
            if (text.equals("```")) {
                isFace = false;
            } else if (text.startsWith("public final class")) {
                isFace = true;
            } else if (isFace && text.endsWith(";")) {
                String bare = text.substring(0, text.length() - 1);
                due.add(bare.replaceAll("(int|boolean) [a-zA-Z]+(?=[,)])", "$1"));
            }
        }
        return due;
    }

    private static Set<String> told() {
        Set<String> told = new TreeSet<>();
        for (Constructor<?> made : Gapline.class.getConstructors()) {
            told.add("public " + made.getName() + "(" + listed(made.getParameterTypes()) + ")");
        }
        for (Method method : Gapline.class.getDeclaredMethods()) {
            if (Modifier.isPublic(method.getModifiers())) {
                told.add(signature(method));
            }
        }
        return told;
    }

    private static String signature(Method method) {
        String thrown = listed(method.getExceptionTypes());
        return "public " + method.getReturnType().getSimpleName() + " " + method.getName()
                + "(" + listed(method.getParameterTypes()) + ")"
                + (thrown.isEmpty() ? "" : " throws " + thrown);
    }

    private static String listed(Class<?>[] types) {
        List<String> names = new ArrayList<>();
        for (Class<?> type : types) {
            names.add(type.getSimpleName());
        }
        return String.join(", ", names);
    }
}

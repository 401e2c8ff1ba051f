import java.io.DataInputStream;
import java.io.IOException;
import java.lang.reflect.Field;
import java.lang.reflect.Method;
import java.lang.reflect.Modifier;
import java.nio.file.Files;
import java.nio.file.Path;
import java.util.ArrayDeque;
import java.util.Deque;
import java.util.HashSet;
import java.util.List;
import java.util.Set;
import java.util.regex.Matcher;
import java.util.regex.Pattern;

/** Those rules of LANGUAGE.md that can be seen in the compiled classes and in the source's words. */
public final class RulesTest {
    private static final String EXCEPTIONS = "(IllegalState|IllegalArgument|IndexOutOfBounds|Arithmetic"
            + "|UnsupportedOperation|NoSuchElement|Runtime)Exception";
    /** Rule 4, as calls read in a compiled class: owner, name and parameters. */
    private static final Pattern LIBRARY = Pattern.compile(String.join("|",
            "java/lang/(Object|Record)\\.<init>\\(\\)", "java/lang/Enum\\..*",
            "java/lang/String\\.(length|isEmpty|toCharArray)\\(\\)", "java/lang/String\\.charAt\\(I\\)",
            "java/lang/String\\.equals\\(.*\\)", "java/lang/String\\.indexOf\\(I\\)",
            "java/lang/String\\.substring\\(II?\\)", "java/lang/String\\.<init>\\(\\[C\\)",
            "java/lang/StringBuilder\\.(<init>|reverse|length|toString)\\(\\)",
            "java/lang/StringBuilder\\.append\\((C|I|Ljava/lang/String;)\\)",
            "java/lang/StringBuilder\\.(charAt|setLength|deleteCharAt)\\(I\\)",
            "java/lang/StringBuilder\\.setCharAt\\(IC\\)",
            "java/util/(ArrayList|List)\\.(<init>|size|isEmpty|clear|iterator)\\(\\)",
            "java/util/(ArrayList|List)\\.(get|remove)\\(I\\)", "java/util/(ArrayList|List)\\.(add|set)\\(.*\\)",
            "java/util/List\\.of\\(.*\\)", "java/util/(Iterator|Iterable)\\..*",
            "java/lang/(Integer|Long|Math)\\.(?!.*Exact\\()[a-zA-Z]+\\([IJ]*\\)",
            "java/lang/System\\.arraycopy\\(.*\\)", "java/util/Arrays\\.(copyOf|copyOfRange|fill)\\(.*\\)",
            "java/(lang|util)/" + EXCEPTIONS + "\\.<init>\\((Ljava/lang/String;)?\\)"));
    /** Rule 11 says "some" sixty lines, twelve classes and twenty fields. */
    private static final int MOST_LINES = 65;
    private static final int MOST_CLASSES = 13;
    private static final int MOST_FIELDS = 22;

    public static void main(String[] args) throws Exception {
        for (Class<?> each : Gapline.class.getNestMembers()) {
            members(each);
            types(each);
            calls(each);
        }
        Check.same("11: few classes", Gapline.class.getNestMembers().length <= MOST_CLASSES, true);
        nothingElseToSee();
        source(Files.readString(Path.of("src", "main", "java", "Gapline.java")));
        Check.end();
    }

    private static boolean isSeen(int modifiers) {
        return !Modifier.isPrivate(modifiers);
    }

    private static Set<String> faceNames() {
        Set<String> names = new HashSet<>();
        for (Method method : Gapline.class.getDeclaredMethods()) {
            if (Modifier.isPublic(method.getModifiers())) {
                names.add(method.getName());
            }
        }
        return names;
    }

    private static void nothingElseToSee() {
        for (Method method : Gapline.class.getDeclaredMethods()) {
            boolean isOpen = Modifier.isPublic(method.getModifiers()) || method.isSynthetic();
            Check.same("1: private " + method.getName(), !isOpen && isSeen(method.getModifiers()), false);
        }
        for (Field field : Gapline.class.getDeclaredFields()) {
            Check.same("1: private " + field.getName(), isSeen(field.getModifiers()), false);
        }
        Check.same("1: one constructor", Gapline.class.getDeclaredConstructors().length, 1);
        for (Class<?> inside : Gapline.class.getDeclaredClasses()) {
            Check.same("1: static " + inside, Modifier.isStatic(inside.getModifiers()), true);
            Check.same("1: not public " + inside, Modifier.isPublic(inside.getModifiers()), false);
        }
    }

    private static void members(Class<?> type) {
        Set<String> face = faceNames();
        int fields = 0;
        for (Field field : type.getDeclaredFields()) {
            boolean isStatic = Modifier.isStatic(field.getModifiers());
            Check.same("5: final " + field, !isStatic || Modifier.isFinal(field.getModifiers()), true);
            fields += isStatic ? 0 : 1;
        }
        Check.same("11: few fields in " + type, fields <= MOST_FIELDS, true);
        for (Method method : type.getDeclaredMethods()) {
            String name = method.getName();
            if (Modifier.isPrivate(method.getModifiers())) {
                Check.same("1: a name of the face, " + method, face.contains(name), false);
            }
            Check.same("11: at most 7 parameters, " + method, method.getParameterCount() <= 7, true);
            if (!type.isRecord()) {
                boolean isOwn = List.of("equals", "hashCode", "toString").contains(name);
                Check.same("6: no " + name + " of its own, " + type, isOwn, false);
            }
        }
    }

    private static void types(Class<?> type) {
        for (Field field : type.getDeclaredFields()) {
            Check.same("3: the type of " + field, isAllowed(field.getType()), true);
        }
        for (Method method : type.getDeclaredMethods()) {
            Check.same("3: what is told by " + method, isAllowed(method.getReturnType()), true);
            for (Class<?> parameter : method.getParameterTypes()) {
                Check.same("3: a parameter of " + method, isAllowed(parameter), true);
            }
        }
    }

    private static boolean isAllowed(Class<?> type) {
        if (type.isArray()) {
            Class<?> part = type.getComponentType();
            boolean isTwice = part.isArray() && part.getComponentType().isPrimitive();
            return isTwice || !part.isArray() && (part.isPrimitive() || isOwn(part));
        }
        return type.isPrimitive() || isOwn(type) || type == Object.class
                || List.of("String", "StringBuilder", "Integer", "ArrayList", "List", "Iterator", "Iterable",
                        "Comparable").contains(type.getSimpleName());
    }

    private static boolean isOwn(Class<?> type) {
        return type.getNestHost() == Gapline.class;
    }

    /** Every call of the library that a compiled class names, held against rule 4. */
    private static void calls(Class<?> type) throws IOException {
        String file = type.getName() + ".class";
        try (DataInputStream in = new DataInputStream(type.getResourceAsStream("/" + file))) {
            in.readInt();
            in.readInt();
            int size = in.readUnsignedShort();
            String[] texts = new String[size];
            int[][] parts = new int[size][];
            for (int i = 1; i < size; i++) {
                int tag = in.readUnsignedByte();
                if (tag == 1) {
                    texts[i] = in.readUTF();
                } else if (tag == 3 || tag == 4 || tag == 15) {
                    in.skipBytes(tag == 15 ? 3 : 4);
                } else if (tag == 5 || tag == 6) {
                    in.skipBytes(8);
                    i++;
                } else {
                    boolean isPair = tag >= 9 && tag <= 12 || tag == 17 || tag == 18;
                    int first = in.readUnsignedShort();
                    parts[i] = new int[] {tag, first, isPair ? in.readUnsignedShort() : 0};
                }
            }
            for (int[] part : parts) {
                if (part != null) {
                    call(type, part, texts, parts);
                }
            }
        }
    }

    private static void call(Class<?> type, int[] part, String[] texts, int[][] parts) {
        if (part[0] == 18 && !type.isRecord()) {
            Check.same("2 and 10: no lambda, no texts joined by + in " + type, true, false);
        }
        if (part[0] == 10 || part[0] == 11) {
            String owner = texts[parts[part[1]][1]];
            String name = texts[parts[part[2]][1]];
            String parameters = texts[parts[part[2]][2]].replaceAll("\\).*", ")");
            if (owner.startsWith("java")) {
                String called = owner + "." + name + parameters;
                Check.same("4: " + called + " in " + type, LIBRARY.matcher(called).matches(), true);
            }
        }
    }

    private static void source(String text) {
        Check.same("4: signs of texts and all else are ASCII",
                text.chars().allMatch(sign -> sign == '\n' || sign >= ' ' && sign < 127), true);
        String code = bare(text);
        for (String word : List.of("finally", "synchronized", "assert", "package", "protected")) {
            Check.same("1 and 6: the word " + word, Pattern.compile("\\b" + word + "\\b").matcher(code).find(), false);
        }
        Matcher thrown = Pattern.compile("\\bthrow\\b\\s*(new\\s+)?(\\w*)").matcher(code);
        while (thrown.find()) {
            boolean isNew = thrown.group(1) != null && thrown.group(2).matches(EXCEPTIONS);
            Check.same("6: " + thrown.group(), isNew, true);
        }
        Matcher caught = Pattern.compile("\\bcatch\\s*\\(([^)]*)\\)").matcher(code);
        while (caught.find()) {
            String types = caught.group(1).strip().replaceAll("^final\\s+|\\s+\\w+$", "");
            Check.same("6: catch " + types, types.matches(EXCEPTIONS + "(\\s*\\|\\s*" + EXCEPTIONS + ")*"), true);
        }
        methodLengths(code);
    }

    /** The source without its comments and with empty texts, its lines as they were. */
    private static String bare(String text) {
        String noTexts = text.replaceAll("'(\\\\.|[^'\\\\])'", "' '").replaceAll("\"(\\\\.|[^\"\\\\\n])*\"", "\"\"");
        Matcher comment = Pattern.compile("/\\*.*?\\*/|//[^\n]*", Pattern.DOTALL).matcher(noTexts);
        return comment.replaceAll(found -> found.group().replaceAll("[^\n]", ""));
    }

    /** A brace right inside a class opens a method; only a method's header has a parenthesis there. */
    private static void methodLengths(String code) {
        Deque<String> open = new ArrayDeque<>();
        Deque<Integer> starts = new ArrayDeque<>();
        int line = 1;
        int headStart = 0;
        for (int i = 0; i < code.length(); i++) {
            char sign = code.charAt(i);
            line += sign == '\n' ? 1 : 0;
            if (sign == '{') {
                String head = code.substring(headStart, i).strip();
                boolean isClass = head.matches("(?s).*\\b(class|enum|interface|record)\\b.*");
                boolean isMethod = !isClass && "class".equals(open.peek()) && head.contains("(");
                open.push(isClass ? "class" : isMethod ? head : "");
                starts.push(line - (int) head.chars().filter(each -> each == '\n').count());
            } else if (sign == '}') {
                String head = open.pop();
                int lines = line - starts.pop() + 1;
                if (!head.isEmpty() && !head.equals("class")) {
                    Check.same("11: a short method: " + head, lines <= MOST_LINES, true);
                }
            }
            headStart = sign == '{' || sign == '}' || sign == ';' ? i + 1 : headStart;
        }
        Check.same("the braces of the source meet", open.size(), 0);
    }
}

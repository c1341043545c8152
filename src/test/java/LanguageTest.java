import java.io.IOException;
import java.lang.reflect.Constructor;
import java.lang.reflect.Executable;
import java.lang.reflect.Field;
import java.lang.reflect.Method;
import java.lang.reflect.Modifier;
import java.nio.file.Files;
import java.nio.file.Path;
import java.util.Arrays;
import java.util.Set;
import java.util.TreeSet;
import java.util.regex.Matcher;
import java.util.regex.Pattern;

/** The public face, and the rules of LANGUAGE.md that can be seen in the class or in its source. */
public final class LanguageTest {
    private static final Path SOURCE = Path.of("src/main/java/TextSolver.java");
    private static final int MOST_PARAMETERS = 7, MOST_CLASSES = 12, MOST_FIELDS = 20, MOST_LINES = 60;

    private static final Set<String> FACE = Set.of(
        "TextSolver()", "clear(int)", "text(int)", "term()", "part(int,int)", "machine(int)",
        "step(int,int,int,int)", "good(int,int,boolean)", "formula(int,int,int,int,int)",
        "deny(int,boolean)", "leave(int,boolean)", "solve()", "model(int)", "models()", "length(int)",
        "letter(int,int)", "holds(int)", "core()", "inCore(int)", "spans()", "meet(int,int)", "told(int)",
        "NONE", "UNKNOWN", "OUTSIDE", "STATE", "ROOM");

    private static int wrong;

    private static void expect(boolean is, String otherwise) {
        if (!is) {
            wrong++;
            System.out.println(otherwise);
        }
    }

    private static String signature(String name, Executable member) {
        StringBuilder types = new StringBuilder();
        for (Class<?> type : member.getParameterTypes()) {
            types.append(types.length() == 0 ? "" : ",").append(type.getSimpleName());
        }
        return name + "(" + types + ")";
    }

    private static void face() {
        Set<String> seen = new TreeSet<>();
        for (Constructor<?> made : TextSolver.class.getDeclaredConstructors()) {
            see(seen, signature("TextSolver", made), made.getModifiers());
        }
        for (Method method : TextSolver.class.getDeclaredMethods()) {
            see(seen, signature(method.getName(), method), method.getModifiers());
            boolean answersInt = method.getReturnType() == int.class;
            expect(!Modifier.isPublic(method.getModifiers()) || answersInt, method + " does not answer an int");
        }
        for (Field field : TextSolver.class.getDeclaredFields()) {
            see(seen, field.getName(), field.getModifiers());
        }
        expect(seen.equals(FACE), "the face is " + seen);
        int kept = Modifier.PUBLIC | Modifier.FINAL;
        expect((TextSolver.class.getModifiers() & kept) == kept, "the class is not public and final");
    }

    private static void see(Set<String> seen, String name, int modifiers) {
        if (!Modifier.isPrivate(modifiers)) {
            seen.add(name);
            expect(Modifier.isPublic(modifiers), name + " is neither public nor private");
        }
    }

    private static void classes() {
        Class<?>[] inside = TextSolver.class.getDeclaredClasses();
        expect(inside.length < MOST_CLASSES, "there are too many classes");
        for (Class<?> type : inside) {
            int modifiers = type.getModifiers();
            expect(Modifier.isStatic(modifiers), type + " is not static");
            expect(!Modifier.isPublic(modifiers) && !Modifier.isProtected(modifiers), type + " can be seen");
            members(type);
        }
        members(TextSolver.class);
    }

    private static void members(Class<?> type) {
        int fields = 0;
        for (Field field : type.getDeclaredFields()) {
            boolean isStatic = Modifier.isStatic(field.getModifiers());
            expect(!isStatic || Modifier.isFinal(field.getModifiers()), field + " is static and not final");
            fields += isStatic ? 0 : 1;
        }
        expect(fields <= MOST_FIELDS, type + " has too many fields");
        for (Method method : type.getDeclaredMethods()) {
            expect(method.getParameterCount() <= MOST_PARAMETERS, method + " takes too much");
            boolean isFace = type == TextSolver.class && Modifier.isPublic(method.getModifiers());
            boolean bearsName = FACE.stream().anyMatch(name -> name.startsWith(method.getName() + "("));
            expect(isFace || !bearsName, method + " bears the name of a public method");
        }
    }

    private static void source() throws IOException {
        String text = Files.readString(SOURCE).replaceAll("(?s)/\\*.*?\\*/", "").replaceAll("//.*", "");
        String[] ruledOut = {"\\bthrow\\b", "\\btry\\b", "\\bcatch\\b", "\\bsynchronized\\b", "\\bassert\\b",
            "->", "::", "Exact\\b", "\\bhashCode\\b", "\\btoString\\b", "^package\\b", "\\bstatic\\s*\\{",
            "\\bObject\\b", "System\\.(?!arraycopy)", "\"", "import (?!java\\.util\\.(Arrays|ArrayList|List);)"};
        for (String pattern : ruledOut) {
            Matcher found = Pattern.compile(pattern, Pattern.MULTILINE).matcher(text);
            expect(!found.find(), "the source has " + pattern);
        }
    }

    /** Methods begin with one brace open or two, and end where that brace closes. */
    private static void methodLengths() throws IOException {
        String[] lines = Files.readString(SOURCE).split("\n");
        for (int i = 0; i < lines.length; i++) {
            Matcher head = Pattern.compile("^( {4}| {8})[a-z].*\\) \\{$").matcher(lines[i]);
            if (head.matches()) {
                String end = head.group(1) + "}";
                int from = i;
                int to = Arrays.asList(lines).subList(from, lines.length).indexOf(end);
                expect(to >= 0 && to <= MOST_LINES, lines[i].trim() + " is too long");
            }
        }
    }

    public static void main(String[] args) throws IOException {
        face();
        classes();
        source();
        methodLengths();
        System.out.println(wrong == 0 ? "the rules are kept" : wrong + " rules are broken");
        if (wrong != 0) {
            System.exit(1);
        }
    }
}

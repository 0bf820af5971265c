import java.io.IOException;
import java.lang.reflect.Constructor;
import java.lang.reflect.Field;
import java.lang.reflect.Method;
import java.lang.reflect.Modifier;
import java.nio.file.Files;
import java.nio.file.Path;
import java.util.ArrayList;
import java.util.Arrays;
import java.util.HashSet;
import java.util.List;
import java.util.Set;
import java.util.TreeSet;

/** The document's public face, and those rules of LANGUAGE.md that can be seen from outside. */
public final class FaceTest {
    private static final Runs RUNS = new Runs("FaceTest");
    private static final Path SOURCE = Path.of("src/main/java/HeatGovernor.java");
    private static final Path DOCUMENT = Path.of("../shared/DOC.md");

    private FaceTest() {
    }

    public static void main(String[] args) throws IOException {
        face();
        hidden();
        classes();
        words();
        RUNS.end();
    }

    private static void face() throws IOException {
        Set<String> due = new TreeSet<>();
        for (String line : Files.readAllLines(DOCUMENT)) {
            if (line.startsWith("    public ")) {
                due.add(line.trim().replaceAll("(int|boolean) \\w+(?=[,)])", "$1").replaceAll(";", ""));
            }
        }
        Set<String> got = new TreeSet<>();
        for (Method method : HeatGovernor.class.getDeclaredMethods()) {
            if (!Modifier.isPrivate(method.getModifiers())) {
                got.add("public " + method.getReturnType() + " " + method.getName()
                        + tail(method.getParameterTypes(), method.getExceptionTypes()));
            }
        }
        for (Constructor<?> made : HeatGovernor.class.getDeclaredConstructors()) {
            got.add("public " + made.getName() + tail(made.getParameterTypes(), made.getExceptionTypes()));
            RUNS.same("the constructor is public", Modifier.isPublic(made.getModifiers()), true);
        }
        RUNS.same("the face", got, due);
        RUNS.same("the class is public and final", HeatGovernor.class.getModifiers(), Modifier.PUBLIC | Modifier.FINAL);
    }

    private static String tail(Class<?>[] parameters, Class<?>[] thrown) {
        List<String> types = new ArrayList<>();
        for (Class<?> parameter : parameters) {
            types.add(parameter.getSimpleName());
        }
        List<String> exceptions = new ArrayList<>();
        for (Class<?> exception : thrown) {
            exceptions.add(exception.getSimpleName());
        }
        return "(" + String.join(", ", types) + ")" + (exceptions.isEmpty() ? "" : " throws " + String.join(", ", exceptions));
    }

    private static void hidden() {
        for (Field field : HeatGovernor.class.getDeclaredFields()) {
            RUNS.same("private: " + field.getName(), Modifier.isPrivate(field.getModifiers()), true);
        }
        Set<String> open = new HashSet<>();
        for (Method method : HeatGovernor.class.getMethods()) {
            open.add(method.getName());
        }
        for (Class<?> type : allClasses()) {
            for (Method method : type.getDeclaredMethods()) {
                boolean shadowing = Modifier.isPrivate(method.getModifiers()) && open.contains(method.getName());
                RUNS.same("has a name of the face: " + type.getName() + "." + method.getName(), shadowing, false);
                RUNS.same("seven parameters at most: " + method.getName(), method.getParameterCount() <= 7, true);
            }
        }
    }

    private static void classes() {
        RUNS.same("twelve classes at most", allClasses().size() <= 12, true);
        for (Class<?> type : allClasses()) {
            int own = 0;
            for (Field field : type.getDeclaredFields()) {
                boolean shared = Modifier.isStatic(field.getModifiers());
                own += shared ? 0 : 1;
                RUNS.same("static and not final: " + field.getName(), shared && !Modifier.isFinal(field.getModifiers()), false);
            }
            RUNS.same("twenty fields at most: " + type.getName(), own <= 20, true);
            boolean inside = type != HeatGovernor.class;
            RUNS.same("inside, so static: " + type.getName(), !inside || Modifier.isStatic(type.getModifiers()), true);
            RUNS.same("inside, so not public: " + type.getName(), inside && Modifier.isPublic(type.getModifiers()), false);
        }
    }

    private static List<Class<?>> allClasses() {
        List<Class<?>> all = new ArrayList<>(Arrays.asList(HeatGovernor.class.getDeclaredClasses()));
        all.add(HeatGovernor.class);
        return all;
    }

    private static void words() throws IOException {
        String source = Files.readString(SOURCE);
        String[] refused = {"->", "::", "\npackage ", "synchronized", "finally", "assert ", "Exact(", "Math.random", "System.out",
            "System.nano", "System.current", "Thread", "float ", "double ", "static {", ".getMessage", "var "};
        for (String word : refused) {
            RUNS.same("the source has " + word, source.contains(word), false);
        }
        for (String line : source.split("\n")) {
            if (line.startsWith("import ")) {
                RUNS.same(line, line.matches("import java\\.util\\.(Arrays|ArrayList|List|Iterator|NoSuchElementException);"), true);
            }
            RUNS.same("only plain characters: " + line, line.chars().allMatch(c -> c < 256), true);
        }
    }
}

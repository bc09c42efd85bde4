import java.io.IOException;
import java.lang.reflect.Constructor;
import java.lang.reflect.Executable;
import java.lang.reflect.Field;
import java.lang.reflect.Method;
import java.lang.reflect.Modifier;
import java.nio.file.Files;
import java.nio.file.Path;
import java.util.Arrays;
import java.util.HashSet;
import java.util.List;
import java.util.Set;
import java.util.TreeSet;

/** The public face to the letter, and what of LANGUAGE.md can be seen by a program. */
public final class FaceTest {
    private static final String[] FACE = {
        "int feed(int, int, int, int, int)", "int end(int)", "int automaton()", "int fault(int)", "int about(int)",
        "int place(int, int)", "int edge(int, int)", "int condition(int, int, int)", "int limit(int, int)",
        "int number(int, int, int)", "boolean urgent(int, boolean)", "boolean undo()", "int graph(int, boolean)",
        "int state(int, int)", "int bound(int, int, int, int)", "int within(int, int)", "int has(int, int, int, int)",
        "int first(int)", "int reached()", "int taken()", "int overlap(int, int)", "int covered(int)",
        "int points(int)", "int rings()", "int from(int, int, int, int, int)", "int avoids(int, int)",
        "int run(int, int)", "int when(int, int)", "int then(int, int, int)", "int spans(int, int)",
        "int tells(int, int, int, int, int, int)", "int latest(int, int, int)", "int soonest(int, int)",
        "int lets(int, int, int, int)", "int begin()", "boolean waits(int)", "int takes(int)", "int now(int)",
        "int clock(int)", "boolean replays(int)"};
    private static final String[] REFUSED = {"->", "::", "finally", "synchronized", "assert ", "System.out", "System.err",
        "System.nanoTime", "currentTimeMillis", "Exact(", "getMessage", "catch", "protected", "Thread", "Random", "java.io",
        "hashCode", "toString", "double", "float", "static {"};

    public static void main(String[] args) throws IOException {
        face();
        classes();
        source();
        Check.finish("FaceTest");
    }

    private static void face() {
        Class<?> face = ClockReach.class;
        Check.same("public final", face.getModifiers() & (Modifier.PUBLIC | Modifier.FINAL), Modifier.PUBLIC | Modifier.FINAL);
        Set<String> want = new TreeSet<>(Arrays.asList(FACE));
        Set<String> got = new TreeSet<>();
        Set<String> names = new HashSet<>();
        for (Method method : face.getDeclaredMethods()) {
            if (!Modifier.isPrivate(method.getModifiers())) {
                got.add(told(method));
                names.add(method.getName());
                Check.same(method + " is public and no more", method.getModifiers(), Modifier.PUBLIC);
            }
        }
        Check.same("methods " + got + " and " + want + " are the same", got.equals(want), true);
        for (Method method : face.getDeclaredMethods()) {
            if (Modifier.isPrivate(method.getModifiers())) {
                Check.same("private " + method.getName() + " bears a public name", names.contains(method.getName()), false);
            }
        }
        Constructor<?>[] constructors = face.getDeclaredConstructors();
        Check.same("one constructor", constructors.length, 1);
        Check.same("without parameters", constructors[0].getParameterCount(), 0);
        for (Field field : face.getDeclaredFields()) {
            if (!Modifier.isPrivate(field.getModifiers())) {
                Check.same(field.getName() + " is NONE", field.getName().equals("NONE"), true);
            }
        }
        Check.same("NONE", ClockReach.NONE, -1);
    }

    private static String told(Method method) {
        StringBuilder text = new StringBuilder(method.getReturnType().getName() + " " + method.getName() + "(");
        for (Class<?> type : method.getParameterTypes()) {
            text.append(text.charAt(text.length() - 1) == '(' ? "" : ", ").append(type.getName());
        }
        return text.append(")").toString();
    }

    private static void classes() {
        Class<?>[] inside = ClockReach.class.getDeclaredClasses();
        Check.same("twelve classes at most", inside.length <= 12, true);
        look(ClockReach.class);
        for (Class<?> one : inside) {
            int modifiers = one.getModifiers();
            Check.same(one + " is static", Modifier.isStatic(modifiers), true);
            Check.same(one + " is not public", Modifier.isPublic(modifiers) || Modifier.isProtected(modifiers), false);
            look(one);
        }
    }

    private static void look(Class<?> one) {
        int fields = 0;
        for (Field field : one.getDeclaredFields()) {
            if (Modifier.isStatic(field.getModifiers())) {
                Check.same(field + " is final", Modifier.isFinal(field.getModifiers()), true);
            } else {
                fields++;
            }
        }
        Check.same(one + " has twenty fields at most", fields <= 20, true);
        for (Executable executable : one.getDeclaredMethods()) {
            Check.same(executable + " has seven parameters at most", executable.getParameterCount() <= 7, true);
        }
        for (Executable executable : one.getDeclaredConstructors()) {
            Check.same(executable + " has seven parameters at most", executable.getParameterCount() <= 7, true);
        }
    }

    private static void source() throws IOException {
        List<String> lines = Files.readAllLines(Path.of("src/main/java/ClockReach.java"));
        int begun = -1;
        for (int i = 0; i < lines.size(); i++) {
            String line = lines.get(i);
            for (String refused : REFUSED) {
                Check.same("line " + (i + 1) + " has " + refused, line.contains(refused), false);
            }
            if (line.startsWith("import ")) {
                Check.same(line, line.equals("import java.util.NoSuchElementException;"), true);
            }
            for (int k = 0; k < line.length(); k++) {
                Check.same("line " + (i + 1) + " is plain", line.charAt(k) < 127, true);
            }
            if (line.matches(" {4}( {4})?[a-z].*\\) (throws [A-Za-z]+ )?\\{")) {
                begun = i;
            }
            if (begun >= 0 && line.matches(" {4}( {4})?}")) {
                Check.same("the method at line " + (begun + 1) + " is short", i - begun <= 60, true);
                begun = -1;
            }
        }
    }
}

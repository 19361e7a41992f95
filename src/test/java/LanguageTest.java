import java.io.IOException;
import java.lang.reflect.Array;
import java.lang.reflect.Field;
import java.lang.reflect.Method;
import java.lang.reflect.Modifier;
import java.nio.file.Files;
import java.nio.file.Path;
import java.util.Collections;
import java.util.IdentityHashMap;
import java.util.List;
import java.util.Set;
import java.util.TreeSet;

/** What of LANGUAGE.md, and of the room that all calls share, can be told by looking. */
final class LanguageTest {
    private static final Check CHECK = new Check("LanguageTest");
    private static final String[] LEFT_OUT = {
        "::", "synchronized", "assert ", "finally", "static {", "Exact(", "Math.random", "Thread", "\" +", "+ \"",
        "protected ", "package ", "System.out", "System.err", "System.in", "currentTimeMillis", "nanoTime", "getenv",
        "getProperty", "getMessage", "hashCode",
    };
    private static final Set<String> IMPORTS = Set.of("NoSuchElementException", "ArrayList", "List", "Iterator", "Arrays");

    public static void main(String[] args) throws IOException, IllegalAccessException {
        source();
        names();
        room();
        CHECK.end();
    }

    private static void source() throws IOException {
        List<String> lines = Files.readAllLines(Path.of("src/main/java/FramedTalk.java"));
        int begin = -1;
        for (int i = 0; i < lines.size(); i++) {
            String line = lines.get(i);
            String code = line.replaceAll("//.*| \\* .*|/\\*.*", "").strip();
            for (String word : LEFT_OUT) {
                CHECK.same("line " + (i + 1) + " has " + word, false, code.contains(word));
            }
            boolean isCase = code.startsWith("case ") || code.startsWith("default ");
            CHECK.same("line " + (i + 1) + " has a lambda", false, code.contains("->") && !isCase);
            if (line.startsWith("import")) {
                String name = line.replace("import java.util.", "").replace(";", "");
                CHECK.same(line + " may be", true, IMPORTS.contains(name));
            }
            if (code.endsWith(") {") || code.contains(") throws ") && code.endsWith("{")) {
                begin = line.length() - code.length() <= 8 && !code.startsWith("if") && !code.startsWith("for")
                        && !code.startsWith("while") ? i : begin;
            }
            if (code.equals("}") && line.length() - code.length() <= 8 && begin >= 0) {
                CHECK.same("a method of at most sixty lines at " + (begin + 1), true, i - begin <= 60);
            }
        }
    }

    private static void names() {
        Set<String> face = new TreeSet<>();
        for (Method method : FramedTalk.class.getDeclaredMethods()) {
            if (Modifier.isPublic(method.getModifiers())) {
                face.add(method.getName());
            }
        }
        for (Method method : FramedTalk.class.getDeclaredMethods()) {
            if (!Modifier.isPublic(method.getModifiers())) {
                CHECK.same(method + " bears a name of the face", false, face.contains(method.getName()));
                CHECK.same(method + " has at most seven parameters", true, method.getParameterCount() <= 7);
            }
        }
        Class<?>[] inside = FramedTalk.class.getDeclaredClasses();
        CHECK.same("at most twelve classes", true, inside.length < 12);
        for (Class<?> one : inside) {
            CHECK.same(one + " is static", true, Modifier.isStatic(one.getModifiers()));
            boolean isOpen = Modifier.isPublic(one.getModifiers()) || Modifier.isProtected(one.getModifiers());
            CHECK.same(one + " is public or protected", false, isOpen);
            for (Method method : one.getDeclaredMethods()) {
                boolean isPrivate = Modifier.isPrivate(method.getModifiers());
                CHECK.same(method + " bears a name of the face", false, isPrivate && face.contains(method.getName()));
            }
        }
    }

    /** All calls of a run live in one room of 600,000 objects with 7.3 million elements: a hundred talks find it. */
    private static void room() throws IllegalAccessException {
        Set<Object> seen = Collections.newSetFromMap(new IdentityHashMap<>());
        int elements = count(new FramedTalk(), seen);
        System.out.println("LanguageTest: " + seen.size() + " objects, " + elements + " fields and elements each");
        CHECK.same(seen.size() + " objects and arrays", true, seen.size() < 600_000 / 100);
        CHECK.same(elements + " fields and elements", true, elements < 7_300_000 / 100);
    }

    private static int count(Object one, Set<Object> seen) throws IllegalAccessException {
        if (one == null || one instanceof String || !seen.add(one)) {
            return 0;
        }
        if (one.getClass().isArray()) {
            return Array.getLength(one) + inside(one, seen);
        }
        if (!one.getClass().getName().startsWith("FramedTalk")) {
            return 1;
        }
        int elements = 0;
        for (Field field : one.getClass().getDeclaredFields()) {
            if (!Modifier.isStatic(field.getModifiers())) {
                field.setAccessible(true);
                elements += 1 + (field.getType().isPrimitive() ? 0 : count(field.get(one), seen));
            }
        }
        return elements;
    }

    private static int inside(Object array, Set<Object> seen) throws IllegalAccessException {
        int elements = 0;
        for (int i = 0; array instanceof Object[] && i < Array.getLength(array); i++) {
            elements += count(Array.get(array, i), seen);
        }
        return elements;
    }
}

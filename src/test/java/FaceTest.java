import java.lang.reflect.Constructor;
import java.lang.reflect.Field;
import java.lang.reflect.Method;
import java.lang.reflect.Modifier;
import java.util.Set;
import java.util.TreeSet;

/** The face of the document and nothing beside it. */
final class FaceTest {
    private static final String[] FACE = {
        "int feed(long,int) IllegalArgumentException IllegalStateException",
        "int state()",
        "int endCode()",
        "int outLength()",
        "int outAt(int) IndexOutOfBoundsException",
        "boolean drop(int)",
        "int messages()",
        "int delivered()",
        "int kind(int) NoSuchElementException",
        "int length(int) NoSuchElementException",
        "int byteAt(int,int) NoSuchElementException IndexOutOfBoundsException",
        "int take() NoSuchElementException",
        "int pongs()",
        "boolean write(long,int)",
        "void clear()",
        "int send(int,int) IllegalArgumentException IllegalStateException",
        "void ping() IllegalStateException",
        "void close(int) IllegalArgumentException IllegalStateException",
    };

    public static void main(String[] args) {
        Check check = new Check("FaceTest");
        Set<String> seen = new TreeSet<>();
        for (Method method : FramedTalk.class.getDeclaredMethods()) {
            if (!Modifier.isPrivate(method.getModifiers())) {
                check.same(method + " is public", true, Modifier.isPublic(method.getModifiers()));
                seen.add(told(method));
            }
        }
        check.same("methods", new TreeSet<>(Set.of(FACE)).toString(), seen.toString());
        for (Field field : FramedTalk.class.getDeclaredFields()) {
            check.same(field + " is private", true, Modifier.isPrivate(field.getModifiers()));
        }
        Constructor<?>[] constructors = FramedTalk.class.getDeclaredConstructors();
        check.same("constructors", 1, constructors.length);
        check.same("public constructors", 1, FramedTalk.class.getConstructors().length);
        check.same("its parameters", 0, constructors[0].getParameterCount());
        check.same("final", true, Modifier.isFinal(FramedTalk.class.getModifiers()));
        check.end();
    }

    private static String told(Method method) {
        StringBuilder told = new StringBuilder();
        told.append(method.getReturnType().getSimpleName()).append(' ').append(method.getName()).append('(');
        for (int i = 0; i < method.getParameterCount(); i++) {
            told.append(i > 0 ? "," : "").append(method.getParameterTypes()[i].getSimpleName());
        }
        told.append(')');
        for (Class<?> thrown : method.getExceptionTypes()) {
            told.append(' ').append(thrown.getSimpleName());
        }
        return told.toString();
    }
}

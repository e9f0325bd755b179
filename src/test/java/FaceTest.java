import java.lang.reflect.Constructor;
import java.lang.reflect.Field;
import java.lang.reflect.Method;
import java.lang.reflect.Modifier;
import java.util.Arrays;
import java.util.HashSet;
import java.util.Set;
import java.util.TreeSet;

/** The public face is the document's, and nothing else of the class can be seen from outside. */
public final class FaceTest {
    private static final String[] FACE = {
        "int open()",
        "int fork(int) NoSuchElementException",
        "int close(int) NoSuchElementException",
        "boolean map(int,int,int) NoSuchElementException IndexOutOfBoundsException IllegalStateException",
        "boolean unmap(int,int) NoSuchElementException IndexOutOfBoundsException",
        "int read(int,int) IndexOutOfBoundsException NoSuchElementException",
        "int write(int,int,int) IndexOutOfBoundsException NoSuchElementException IllegalStateException",
        "boolean lend(int,int,int,int) NoSuchElementException IndexOutOfBoundsException",
        "int join(int,int,int,int) NoSuchElementException IndexOutOfBoundsException",
        "int take()",
        "int back(int) NoSuchElementException",
        "int drop(int) NoSuchElementException",
        "int holders(int,int) NoSuchElementException IndexOutOfBoundsException",
        "int changed(int) NoSuchElementException",
        "int count(int)",
        "boolean isThere(int)",
    };

    public static void main(String[] args) {
        Class<?> face = FrameSharer.class;
        Checks.test("public final class FrameSharer", () -> {
            Checks.due("modifiers", Modifier.toString(face.getModifiers()), "public final");
        });
        Checks.test("public FrameSharer(int frames)", () -> constructors(face));
        Checks.test("the public methods", () -> methods(face));
        Checks.test("no other public member", () -> fields(face));
        Checks.end("FaceTest");
    }

    private static void constructors(Class<?> face) {
        Constructor<?>[] all = face.getDeclaredConstructors();
        Checks.due("constructors", all.length, 1);
        Checks.due("the constructor", all[0].toString(), "public FrameSharer(int)");
    }

    private static void methods(Class<?> face) {
        Set<String> seen = new TreeSet<>();
        Set<String> publicNames = new HashSet<>();
        for (Method method : face.getDeclaredMethods()) {
            if (!Modifier.isPrivate(method.getModifiers())) {
                seen.add(described(method));
                publicNames.add(method.getName());
                Checks.due(method.getName(), Modifier.toString(method.getModifiers()), "public");
            }
        }
        Checks.due("methods", seen, new TreeSet<>(Arrays.asList(FACE)));
        for (Method method : face.getDeclaredMethods()) {
            if (Modifier.isPrivate(method.getModifiers())) {
                Checks.due(method + " has a public name", publicNames.contains(method.getName()), false);
            }
        }
    }

    private static String described(Method method) {
        StringBuilder text = new StringBuilder(method.getReturnType() + " " + method.getName() + "(");
        String comma = "";
        for (Class<?> type : method.getParameterTypes()) {
            text.append(comma).append(type);
            comma = ",";
        }
        text.append(")");
        for (Class<?> type : method.getExceptionTypes()) {
            text.append(" ").append(type.getSimpleName());
        }
        return text.toString();
    }

    private static void fields(Class<?> face) {
        for (Field field : face.getDeclaredFields()) {
            int modifiers = field.getModifiers();
            Checks.due(field.getName() + " is private", Modifier.isPrivate(modifiers), true);
            Checks.due(field.getName() + " is final", Modifier.isFinal(modifiers), true);
        }
    }
}

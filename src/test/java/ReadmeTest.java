import java.io.IOException;
import java.lang.reflect.InvocationTargetException;
import java.lang.reflect.Method;
import java.lang.reflect.Modifier;
import java.nio.file.Files;
import java.nio.file.Path;
import java.util.ArrayList;
import java.util.HashMap;
import java.util.List;
import java.util.Map;
import java.util.Set;
import java.util.TreeSet;
import java.util.regex.Matcher;
import java.util.regex.Pattern;

/** README.md: each example in it answers as it says there. .ci/run starts this beside that page. */
public final class ReadmeTest {
    private static final Pattern NEW =
            Pattern.compile("FrameSharer keeper = new FrameSharer\\((-?\\d+)\\);( +// .*)?");
    private static final Pattern CALL =
            Pattern.compile("(?:int (\\w+) = )?keeper\\.(\\w+)\\((.*)\\); +// (throws \\w+|-?\\w+)(?:[,:] .*)?");

    private final Set<String> asked = new TreeSet<>();
    private Map<String, Integer> names = new HashMap<>();
    private FrameSharer keeper;

    public static void main(String[] args) throws IOException {
        List<String> page = Files.readAllLines(Path.of("README.md"));
        ReadmeTest readme = new ReadmeTest();
        Checks.test("each example in it answers as it says there", () -> readme.askAll(page));
        Checks.test("how to use the class: an example of every call", readme::everyCall);
        Checks.end("ReadmeTest");
    }

    private void askAll(List<String> page) {
        boolean inExample = false;
        for (String line : page) {
            if (line.startsWith("```")) {
                inExample = line.equals("```java");
            } else if (inExample) {
                ask(line);
            }
        }
    }

    private void ask(String line) {
        Matcher made = NEW.matcher(line);
        Matcher call = CALL.matcher(line);
        if (made.matches()) {
            keeper = new FrameSharer(Integer.parseInt(made.group(1)));
            names = new HashMap<>();
        } else if (call.matches()) {
            String got = answer(call.group(2), call.group(3));
            Checks.due(line, got, call.group(4));
            if (call.group(1) != null) {
                names.put(call.group(1), Integer.valueOf(got));
            }
        } else {
            Checks.due(line, "neither a new keeper nor a call with its answer", "one of both");
        }
    }

    private String answer(String name, String written) {
        asked.add(name);
        Object[] arguments = arguments(written);
        for (Method method : FrameSharer.class.getMethods()) {
            if (method.getName().equals(name) && method.getParameterCount() == arguments.length) {
                return answer(method, arguments);
            }
        }
        return "there is no such call";
    }

    private String answer(Method method, Object[] arguments) {
        try {
            return String.valueOf(method.invoke(keeper, arguments));
        } catch (InvocationTargetException e) {
            return "throws " + e.getCause().getClass().getSimpleName();
        } catch (IllegalAccessException e) {
            return "the call can't be seen";
        }
    }

    private Object[] arguments(String written) {
        List<Object> values = new ArrayList<>();
        for (String one : written.isEmpty() ? new String[0] : written.split(", ")) {
            values.add(names.containsKey(one) ? names.get(one) : Integer.valueOf(one));
        }
        return values.toArray();
    }

    private void everyCall() {
        Set<String> face = new TreeSet<>();
        for (Method method : FrameSharer.class.getDeclaredMethods()) {
            if (Modifier.isPublic(method.getModifiers())) {
                face.add(method.getName());
            }
        }
        Checks.due("calls with an example", asked, face);
    }
}

import java.io.IOException;
import java.lang.reflect.InvocationTargetException;
import java.lang.reflect.Method;
import java.lang.reflect.Modifier;
import java.nio.charset.StandardCharsets;
import java.nio.file.Files;
import java.nio.file.Path;
import java.util.ArrayList;
import java.util.Arrays;
import java.util.HashMap;
import java.util.List;
import java.util.Map;
import java.util.TreeSet;
import java.util.regex.Matcher;
import java.util.regex.Pattern;

/** The calls of README.md are made one behind the other, and answer what stands behind them. */
public final class ReadmeTest {
    private static final String MADE = "BondDesk desk = new BondDesk();";
    private static final Pattern CALL = Pattern.compile(
            "(?:(?<type>\\w+) (?<name>\\w+) = )?desk\\.(?<method>\\w+)\\((?<given>[^()]*)\\); +// (?<answer>[^ :]+)(?:: .+)?");

    private final Map<String, String> named = new HashMap<>();
    private final TreeSet<String> shown = new TreeSet<>();
    private BondDesk desk;

    public static void main(String[] args) throws IOException {
        ReadmeTest test = new ReadmeTest();
        for (String line : javaLines(Files.readAllLines(Path.of("README.md"), StandardCharsets.UTF_8))) {
            test.check(line);
        }
        TreeSet<String> face = new TreeSet<>();
        for (Method method : BondDesk.class.getDeclaredMethods()) {
            if (Modifier.isPublic(method.getModifiers())) {
                face.add(method.getName());
            }
        }
        Check.same("the methods that are shown", face.toString(), test.shown.toString());
        Check.end();
    }

    private static List<String> javaLines(List<String> page) {
        List<String> lines = new ArrayList<>();
        boolean inside = false;
        for (String line : page) {
            if (line.startsWith("```")) {
                inside = line.equals("```java");
            } else if (inside && !line.isBlank()) {
                lines.add(line);
            }
        }
        return lines;
    }

    private void check(String line) {
        if (line.equals(MADE)) {
            desk = new BondDesk();
            return;
        }
        Matcher call = CALL.matcher(line);
        if (!call.matches() || desk == null) {
            Check.same(line, "a call of a desk, with its answer", "another line");
            return;
        }
        Method method = methodNamed(call.group("method"));
        String answer = Check.told(() -> answer(method, given(call.group("given"))));
        Check.same(line, call.group("answer"), answer);
        shown.add(call.group("method"));
        if (call.group("name") != null) {
            Check.same(line + " is kept as", String.valueOf(method.getReturnType()), call.group("type"));
            named.put(call.group("name"), answer);
        }
    }

    private static Method methodNamed(String name) {
        return Arrays.stream(BondDesk.class.getDeclaredMethods())
                .filter(method -> method.getName().equals(name) && Modifier.isPublic(method.getModifiers()))
                .findFirst().orElseThrow(() -> new AssertionError("there is no method " + name));
    }

    private Object[] given(String words) {
        return words.isEmpty() ? new Object[0] : Arrays.stream(words.split(", "))
                .map(word -> (Object) Integer.valueOf(named.getOrDefault(word, word))).toArray();
    }

    private Object answer(Method method, Object[] given) {
        try {
            return method.invoke(desk, given);
        } catch (InvocationTargetException e) {
            if (e.getCause() instanceof RuntimeException) {
                throw (RuntimeException) e.getCause();
            }
            throw new AssertionError(e);
        } catch (IllegalAccessException e) {
            throw new AssertionError(e);
        }
    }
}

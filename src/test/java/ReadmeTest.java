import java.io.IOException;
import java.lang.reflect.InvocationTargetException;
import java.lang.reflect.Method;
import java.lang.reflect.Modifier;
import java.nio.file.Files;
import java.nio.file.Path;
import java.util.ArrayList;
import java.util.HashMap;
import java.util.List;
import java.util.Map;
import java.util.Set;
import java.util.TreeSet;
import java.util.regex.Matcher;
import java.util.regex.Pattern;

/**
 * The calls that README.md shows, made in their order on one object: each answers what stands behind it. Every call of
 * the public face must be shown, and a line that can't be read fails.
 */
public final class ReadmeTest {
    private static final Path README = Path.of("README.md");
    private static final Pattern CALL = Pattern.compile(
        "(?:int (\\w+) = )?swarm\\.(\\w+)\\(([^()]*)\\);\\s*// (-?\\d+|true|false)(?::.*)?");

    private final Checks checks = new Checks("ReadmeTest");
    private final Map<String, Integer> names = new HashMap<>(Map.of("PieceSwarm.NONE", PieceSwarm.NONE));
    private final Set<String> shown = new TreeSet<>();
    private PieceSwarm swarm;

    public static void main(String[] args) throws IOException, IllegalAccessException {
        ReadmeTest test = new ReadmeTest();
        for (String line : javaLines(Files.readAllLines(README))) {
            test.read(line);
        }
        test.end();
    }

    private static List<String> javaLines(List<String> lines) {
        List<String> found = new ArrayList<>();
        boolean inside = false;
        for (String line : lines) {
            if (line.startsWith("```")) {
                inside = line.equals("```java");
            } else if (inside && !line.isBlank()) {
                found.add(line);
            }
        }
        return found;
    }

    private void read(String line) throws IllegalAccessException {
        Matcher matcher = CALL.matcher(line);
        if (line.equals("PieceSwarm swarm = new PieceSwarm();")) {
            swarm = new PieceSwarm();
        } else if (swarm == null || !matcher.matches()) {
            checks.due("can be read: " + line, false, true);
        } else {
            int answer = call(matcher.group(2), argumentsOf(matcher.group(3)));
            checks.due(line, answer, number(matcher.group(4)));
            if (matcher.group(1) != null) {
                names.put(matcher.group(1), answer);
            }
        }
    }

    private Object[] argumentsOf(String text) {
        List<Object> numbers = new ArrayList<>();
        for (String argument : text.split(", *")) {
            numbers.add(number(argument));
        }
        return numbers.toArray();
    }

    private int number(String text) {
        if (text.equals("true") || text.equals("false")) {
            return text.equals("true") ? 1 : 0;
        }
        return names.containsKey(text) ? names.get(text) : Integer.parseInt(text);
    }

    private int call(String name, Object[] arguments) throws IllegalAccessException {
        for (Method method : PieceSwarm.class.getMethods()) {
            if (method.getName().equals(name) && method.getParameterCount() == arguments.length) {
                shown.add(name);
                return answerOf(method, arguments);
            }
        }
        throw new IllegalStateException("there is no such call: " + name);
    }

    private int answerOf(Method method, Object[] arguments) throws IllegalAccessException {
        try {
            Object answer = method.invoke(swarm, arguments);
            return answer instanceof Boolean truth ? (truth ? 1 : 0) : (Integer) answer;
        } catch (InvocationTargetException thrown) {
            throw new IllegalStateException(method + " threw", thrown);
        }
    }

    private void end() {
        for (Method method : PieceSwarm.class.getDeclaredMethods()) {
            if (Modifier.isPublic(method.getModifiers())) {
                checks.due("shows " + method.getName(), shown.contains(method.getName()), true);
            }
        }
        checks.end();
    }
}

import java.lang.reflect.InvocationTargetException;
import java.lang.reflect.Method;
import java.util.Comparator;
import java.util.List;
import java.util.regex.Matcher;
import java.util.regex.Pattern;
import java.util.stream.Stream;

/**
 * Runs each test of the document's boundary cases. A test is a static method named by its promise's number
 * (promise5...); the run fails too if a promise has no test, or a method is not so named.
 */
public final class BoundaryTest {
    private static final int PROMISES = 19;
    private static final Pattern NAME = Pattern.compile("promise(\\d+)[A-Z].*");
    private static final List<Class<?>> GROUPS = List.of(FileBoundaries.class, PeerBoundaries.class,
        OpeningBoundaries.class, AskingBoundaries.class, ComingBoundaries.class, AnswerBoundaries.class,
        Refusals.class);

    public static void main(String[] args) throws IllegalAccessException {
        Checks checks = new Checks("BoundaryTest");
        int[] tests = new int[PROMISES + 1];
        for (Class<?> group : GROUPS) {
            for (Method method : testsOf(group)) {
                Matcher matcher = NAME.matcher(method.getName());
                boolean named = matcher.matches();
                checks.begin(method.getName());
                checks.due("is named by its promise", named, true);
                if (named) {
                    tests[Integer.parseInt(matcher.group(1))]++;
                    run(method, checks);
                }
            }
        }
        checks.begin("BoundaryTest");
        for (int promise = 1; promise <= PROMISES; promise++) {
            checks.due("tests of promise " + promise + " (" + tests[promise] + ")", tests[promise] > 0, true);
        }
        checks.end();
    }

    private static List<Method> testsOf(Class<?> group) {
        return Stream.of(group.getDeclaredMethods())
            .filter(method -> List.of(method.getParameterTypes()).equals(List.of(Checks.class)))
            .sorted(Comparator.comparing(Method::getName))
            .toList();
    }

    private static void run(Method test, Checks checks) throws IllegalAccessException {
        try {
            test.invoke(null, checks);
        } catch (InvocationTargetException thrown) {
            thrown.getCause().printStackTrace(System.out);
            checks.due("ends without an exception", false, true);
        }
    }
}

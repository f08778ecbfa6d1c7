import java.lang.reflect.InvocationTargetException;
import java.lang.reflect.Method;
import java.util.Comparator;
import java.util.List;
import java.util.regex.Matcher;
import java.util.regex.Pattern;
import java.util.stream.Stream;

/**
 * Runs each test of the document's boundary cases. A test is a static method named by its promise's number
 * (promise5...); the run fails too if a promise has no test, or a method is not so named.
 */
public final class BoundaryTest {
    static final int PROMISES = 19;

    private static final Pattern NAME = Pattern.compile("promise(\\d{1,2})[A-Z].*");
    private static final List<Class<?>> GROUPS = List.of(FileBoundaries.class, PeerBoundaries.class,
        OpeningBoundaries.class, AskingBoundaries.class, ComingBoundaries.class, AnswerBoundaries.class,
        Refusals.class);

    public static void main(String[] args) throws IllegalAccessException {
        Checks checks = new Checks("BoundaryTest");
        int[] tests = new int[PROMISES + 1];
        for (Method test : tests()) {
            int promise = promiseOf(test);
            checks.begin(test.getName());
            checks.due("is named by its promise", promise >= 1 && promise <= PROMISES, true);
            if (promise >= 1 && promise <= PROMISES) {
                tests[promise]++;
                run(test, checks);
            }
        }
        checks.begin("BoundaryTest");
        for (int promise = 1; promise <= PROMISES; promise++) {
            checks.due("tests of promise " + promise + " (" + tests[promise] + ")", tests[promise] > 0, true);
        }
        checks.end();
    }

    static List<Method> tests() {
        return GROUPS.stream().flatMap(BoundaryTest::testsOf).toList();
    }

    /** The number that the test's name bears; 0 if it bears none. */
    static int promiseOf(Method test) {
        Matcher matcher = NAME.matcher(test.getName());
        return matcher.matches() ? Integer.parseInt(matcher.group(1)) : 0;
    }

    private static Stream<Method> testsOf(Class<?> group) {
        return Stream.of(group.getDeclaredMethods())
            .filter(method -> List.of(method.getParameterTypes()).equals(List.of(Checks.class)))
            .sorted(Comparator.comparing(Method::getName));
    }

    private static void run(Method test, Checks checks) throws IllegalAccessException {
        try {
            test.invoke(null, checks);
        } catch (InvocationTargetException thrown) {
            thrown.getCause().printStackTrace(System.out);
            checks.due("ends without an exception", false, true);
        }
    }
}

/** What the tests share: counts the answers that are not as due, and ends with exit code 1 if there was one. */
final class Checks {
    private static final int MOST_PRINTED = 50;

    private final String name;
    private String test;
    private int wrong;
    private int made;

    Checks(String name) {
        this.name = name;
        this.test = name;
    }

    /** What is printed from now on bears the name of this test. */
    void begin(String nextTest) {
        test = nextTest;
    }

    void due(String call, long got, long want) {
        made++;
        if (got != want) {
            wrong++;
            if (wrong <= MOST_PRINTED) {
                System.out.println(test + ": " + call + " answered " + got + ", due is " + want);
            }
        }
    }

    void due(String call, boolean got, boolean want) {
        due(call, got ? 1 : 0, want ? 1 : 0);
    }

    boolean anyWrong() {
        return wrong > 0;
    }

    void end() {
        System.out.println(name + ": " + made + " checks, " + wrong + " wrong");
        if (wrong > 0) {
            System.exit(1);
        }
    }
}

/** Promise 4: driver. */
public final class Promise04DriverTest {
    public static void main(String[] args) {
        addsUpTheDifferences();
        goesBeyondItsOwnRange();
        refuses();
        Run.end();
    }

    private static void addsUpTheDifferences() {
        Run.with("a chain of parents", "addDriver(100)", "addDriver(200)", "addScenario(0)", "addScenario(1)",
                "addScenario(2)", "differ(1, 0, 3, 10)", "differ(2, 0, 5, 200)", "differ(3, 0, 0, -3)",
                "differ(3, 0, 11, 1)", "differ(2, 0, 5, -50)")
            .seen("driver(0, 0, 11)", 100)
            .seen("driver(1, 0, 2)", 100)
            .seen("driver(1, 0, 3)", 110)
            .seen("driver(1, 0, 11)", 110)
            .seen("driver(2, 0, 2)", 100)
            .seen("driver(2, 0, 4)", 110)
            .seen("driver(2, 0, 5)", 260)
            .seen("driver(3, 0, 0)", 97)
            .seen("driver(3, 0, 3)", 107)
            .seen("driver(3, 0, 5)", 257)
            .seen("driver(3, 0, 10)", 257)
            .seen("driver(3, 0, 11)", 258)
            .seen("driver(3, 1, 11)", 200)
            .due("differ(1, 0, 4, 1)", 2)
            .seen("driver(3, 0, 4)", 108)
            .due("setDriver(0, 0)", 0)
            .seen("driver(3, 0, 4)", 8);
        Run.with("brothers", "addDriver(100)", "addScenario(0)", "addScenario(0)", "addScenario(1)",
                "differ(1, 0, 0, 1)", "differ(2, 0, 0, 10)", "differ(3, 0, 0, 100)")
            .seen("driver(1, 0, 0)", 101)
            .seen("driver(2, 0, 0)", 110)
            .seen("driver(3, 0, 0)", 201)
            .seen("driver(0, 0, 0)", 100);
    }

    private static void goesBeyondItsOwnRange() {
        Run run = Run.with("beyond the range of a value", "addDriver(0)", "addDriver(9999)", "addScenario(0)");
        for (int i = 0; i < 6; i++) {
            run.due("differ(1, 0, " + i + ", -999)", 2 * i + 1).due("differ(1, 1, " + i + ", 999)", 2 * i + 2);
        }
        run.seen("driver(1, 0, 11)", -5994).seen("driver(1, 1, 11)", 15993);
    }

    private static void refuses() {
        Run.with("what driver refuses", "addDriver(1)", "addDriver(2)", "addScenario(0)")
            .due("driver(1, 1, 11)", 2)
            .throwing("driver(2, 0, 0)", IndexOutOfBoundsException.class)
            .throwing("driver(-1, 0, 0)", IndexOutOfBoundsException.class)
            .throwing("driver(4, 0, 0)", IndexOutOfBoundsException.class)
            .throwing("driver(0, 2, 0)", IndexOutOfBoundsException.class)
            .throwing("driver(0, -1, 0)", IndexOutOfBoundsException.class)
            .throwing("driver(0, 0, 12)", IndexOutOfBoundsException.class)
            .throwing("driver(0, 0, -1)", IndexOutOfBoundsException.class)
            .throwing("driver(2147483647, -2147483648, 2147483647)", IndexOutOfBoundsException.class);
    }
}

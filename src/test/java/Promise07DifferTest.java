/** Promise 7: differ. */
public final class Promise07DifferTest {
    public static void main(String[] args) {
        countsThoseOfTheScenario();
        refuses();
        isFullWithTwelve();
        leavesTheBaseAlone();
        Run.end();
    }

    private static void countsThoseOfTheScenario() {
        Run.with("differences of a scenario", "addDriver(10)", "addDriver(20)", "addScenario(0)", "addScenario(1)")
            .due("differ(1, 0, 0, 999)", 1)
            .due("differ(1, 0, 11, -999)", 2)
            .due("differ(2, 1, 6, 0)", 1)
            .due("differ(1, 1, 6, 3)", 3)
            .due("differ(2, 1, 7, 4)", 2)
            .due("driver(1, 0, 10)", 1009)
            .due("driver(1, 0, 11)", 10)
            .due("driver(2, 1, 5)", 20)
            .due("driver(2, 1, 6)", 23)
            .due("driver(2, 1, 7)", 27);
    }

    private static void refuses() {
        Run.with("what differ refuses", "addDriver(10)", "addDriver(20)", "addScenario(0)")
            .throwing("differ(2, 0, 0, 1)", IndexOutOfBoundsException.class)
            .throwing("differ(-1, 0, 0, 1)", IndexOutOfBoundsException.class)
            .throwing("differ(1, 2, 0, 1)", IndexOutOfBoundsException.class)
            .throwing("differ(1, -1, 0, 1)", IndexOutOfBoundsException.class)
            .throwing("differ(1, 0, 12, 1)", IndexOutOfBoundsException.class)
            .throwing("differ(1, 0, -1, 1)", IndexOutOfBoundsException.class)
            .throwing("differ(1, 0, 12, 1000)", IndexOutOfBoundsException.class)
            .throwing("differ(0, 2, 0, 1)", IndexOutOfBoundsException.class)
            .throwing("differ(1, 0, 0, 1000)", IllegalArgumentException.class)
            .throwing("differ(1, 0, 0, -1000)", IllegalArgumentException.class)
            .throwing("differ(1, 0, 0, -2147483648)", IllegalArgumentException.class)
            .throwing("differ(0, 0, 0, 1000)", IllegalArgumentException.class)
            .throwing("differ(0, 0, 0, 999)", UnsupportedOperationException.class)
            .throwing("differ(0, 0, 0, 0)", UnsupportedOperationException.class)
            .due("differ(1, 1, 0, -999)", 1);
    }

    private static void isFullWithTwelve() {
        Run run = Run.with("twelve differences", "addDriver(10)", "addScenario(0)", "addScenario(0)");
        for (int i = 1; i <= 6; i++) {
            run.due("differ(1, 0, 0, 1)", i).due("differ(2, 0, 0, 0)", i);
        }
        run.throwing("differ(1, 0, 0, 1)", IllegalStateException.class)
            .throwing("differ(2, 0, 11, 0)", IllegalStateException.class)
            .throwing("differ(0, 0, 0, 1)", UnsupportedOperationException.class)
            .throwing("differ(1, 0, 0, 1000)", IllegalArgumentException.class)
            .throwing("differ(3, 0, 0, 1)", IndexOutOfBoundsException.class)
            .due("driver(1, 0, 0)", 16)
            .due("driver(2, 0, 0)", 10);
    }

    private static void leavesTheBaseAlone() {
        Run.with("approvals are of the base", "addDriver(10)", "addLine('d', 0, 0)", "addScenario(0)",
                "approve(0, 0, 0)")
            .due("differ(1, 0, 0, 500)", 1)
            .due("state(0, 0)", 'a')
            .due("number(0, 0, 0)", 10)
            .due("number(1, 0, 0)", 510);
    }
}

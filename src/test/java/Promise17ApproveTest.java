/** Promise 17: approve. */
public final class Promise17ApproveTest {
    private static final Class<IndexOutOfBoundsException> INDEX = IndexOutOfBoundsException.class;
    private static final Class<IllegalArgumentException> ARGUMENT = IllegalArgumentException.class;
    private static final Class<UnsupportedOperationException> NONE = UnsupportedOperationException.class;

    public static void main(String[] args) {
        keepsTheNumberOfTheBase();
        replacesAnEarlierOne();
        refuses();
        Run.end();
    }

    private static void keepsTheNumberOfTheBase() {
        Run.with("approvals", "addDriver(10)", "addLine('d', 0, 0)", "addLine('s', 0, 0)", "addScenario(0)",
                "differ(1, 0, 0, 5)", "actual(0, 0, 30)")
            .due("approve(0, 0, 0)", 30)
            .due("approve(1, 0, 9999)", 60)
            .due("approve(1, 11, 1)", 20)
            .due("state(0, 0)", 'a')
            .due("state(1, 0)", 'a')
            .due("state(1, 11)", 'a')
            .due("state(0, 11)", '-')
            .due("actual(0, 0, -2469)", 1)
            .due("state(1, 0)", 'a')
            .due("actual(0, 0, -4969)", 0)
            .due("drift(1, 0)", -9998)
            .due("actual(0, 0, -4970)", 1)
            .due("drift(1, 0)", -10000)
            .due("actual(0, 0, 5029)", 0)
            .due("approve(1, 0, 9998)", 10058)
            .due("actual(0, 0, 30)", 0)
            .due("drift(1, 0)", -9998)
            .due("state(1, 0)", 'a');
    }

    private static void replacesAnEarlierOne() {
        Run.with("an approval anew", "addDriver(10)", "addLine('d', 0, 0)", "approve(0, 3, 9)")
            .due("setDriver(0, 20)", 1)
            .due("state(0, 3)", 'o')
            .due("approve(0, 3, 4)", 20)
            .due("state(0, 3)", 'a')
            .due("drift(0, 3)", 0)
            .due("open()", 0)
            .due("meanTolerance()", 4.0)
            .due("setDriver(0, 24)", 0)
            .due("approve(0, 3, 0)", 24)
            .due("meanTolerance()", 0.0)
            .due("setDriver(0, 24)", 0)
            .due("setDriver(0, 23)", 1)
            .due("approve(0, 3, 0)", 23)
            .due("setDriver(0, 22)", 1);
    }

    private static void refuses() {
        Run.with("what approve refuses", "addDriver(9999)", "addLine('d', 0, 0)", "addLine('p', 0, 0)",
                "addLine('p', 1, 1)", "approve(0, 0, 5)")
            .throwing("approve(3, 0, 0)", INDEX)
            .throwing("approve(-1, 0, 0)", INDEX)
            .throwing("approve(0, 12, 0)", INDEX)
            .throwing("approve(0, -1, 0)", INDEX)
            .throwing("approve(3, 0, 10000)", INDEX)
            .throwing("approve(0, 12, -1)", INDEX)
            .throwing("approve(0, 0, 10000)", ARGUMENT)
            .throwing("approve(0, 0, -1)", ARGUMENT)
            .throwing("approve(2, 0, 10000)", ARGUMENT)
            .throwing("approve(2, 0, -2147483648)", ARGUMENT)
            .throwing("approve(2, 0, 9999)", NONE)
            .throwing("approve(2, 0, 0)", NONE)
            .due("state(2, 0)", '-')
            .due("setDriver(0, 0)", 1)
            .due("approve(2, 0, 7)", 0)
            .due("setDriver(0, 9999)", 1)
            .throwing("approve(2, 0, 8)", NONE)
            .due("state(2, 0)", 'o')
            .due("meanTolerance()", 6.0);
    }
}

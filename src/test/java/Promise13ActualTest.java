/** Promise 13: actual. */
public final class Promise13ActualTest {
    private static final Class<IndexOutOfBoundsException> INDEX = IndexOutOfBoundsException.class;
    private static final Class<IllegalArgumentException> ARGUMENT = IllegalArgumentException.class;

    public static void main(String[] args) {
        tells();
        countsWhatIsOpenAgainByThis();
        refuses();
        Run.end();
    }

    private static void tells() {
        Run.with("actuals", "addDriver(10)", "addLine('d', 0, 0)", "addLine('s', 0, 0)", "pass()", "pass()")
            .due("actual(0, 0, -9999999)", 0)
            .due("number(0, 0, 0)", -9999999)
            .due("number(0, 1, 0)", -19999998)
            .due("actual(0, 0, 9999999)", 0)
            .due("number(0, 0, 0)", 9999999)
            .due("actual(0, 2, 0)", 0)
            .due("number(0, 0, 2)", 0)
            .due("number(0, 0, 1)", 10)
            .due("actual(1, 1, 3)", 0)
            .due("number(0, 1, 1)", 3)
            .due("number(0, 0, 1)", 10)
            .due("setDriver(0, 11)", 0)
            .due("number(0, 0, 0)", 9999999)
            .due("number(0, 0, 1)", 11);
    }

    private static void countsWhatIsOpenAgainByThis() {
        Run.with("approvals and actuals", "addDriver(10)", "addLine('d', 0, 0)", "addLine('s', 0, 0)",
                "addLine('p', 1, 1)", "approve(0, 0, 5)", "approve(1, 0, 9)", "approve(0, 1, 0)", "approve(2, 0, 4)")
            .due("actual(0, 0, 10)", 0)
            .due("actual(0, 0, 14)", 0)
            .due("actual(0, 0, 15)", 2)
            .due("state(0, 0)", 'a')
            .due("state(1, 0)", 'o')
            .due("state(2, 0)", 'o')
            .due("actual(0, 0, 16)", 1)
            .due("state(0, 0)", 'o')
            .due("state(0, 1)", 'a')
            .due("actual(0, 0, 10)", 0)
            .due("open()", 3)
            .due("pass()", 1)
            .due("actual(0, 1, 11)", 1)
            .due("open()", 4);
        Run.with("an actual in place of none", "addDriver(9999)", "addLine('d', 0, 0)", "addLine('p', 0, 0)",
                "addLine('p', 1, 1)", "actual(2, 0, 6)", "approve(2, 0, 0)")
            .due("actual(1, 0, 77)", 0)
            .due("actual(2, 0, 7)", 1)
            .due("drift(2, 0)", 1);
    }

    private static void refuses() {
        Run.with("what actual refuses", "addDriver(10)", "addLine('d', 0, 0)", "addLine('d', 0, 0)", "pass()",
                "approve(0, 0, 0)", "approve(0, 2, 0)")
            .throwing("actual(2, 0, 5)", INDEX)
            .throwing("actual(-1, 0, 5)", INDEX)
            .throwing("actual(0, 12, 5)", INDEX)
            .throwing("actual(0, -1, 5)", INDEX)
            .throwing("actual(0, 12, 10000000)", INDEX)
            .throwing("actual(2, 2, 5)", INDEX)
            .throwing("actual(2, 0, 10000000)", INDEX)
            .throwing("actual(0, 2, 5)", ARGUMENT)
            .throwing("actual(0, 11, 5)", ARGUMENT)
            .throwing("actual(0, 0, 10000000)", ARGUMENT)
            .throwing("actual(0, 1, -10000000)", ARGUMENT)
            .throwing("actual(0, 0, -2147483648)", ARGUMENT)
            .throwing("takeActual(0, 0)", java.util.NoSuchElementException.class)
            .due("actual(1, 1, 5)", 0)
            .due("pass()", 2)
            .due("actual(0, 2, 5)", 1);
    }
}

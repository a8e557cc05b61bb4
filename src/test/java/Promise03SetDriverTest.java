/** Promise 3: setDriver. */
public final class Promise03SetDriverTest {
    public static void main(String[] args) {
        setsInEveryScenarioAndMonth();
        refuses();
        countsWhatIsOpenAgainByThisAlone();
        opensWhereThereIsNoNumber();
        Run.end();
    }

    private static void setsInEveryScenarioAndMonth() {
        Run.with("a driver that is set", "addDriver(5)", "addDriver(6)", "addScenario(0)", "differ(1, 0, 4, -10)")
            .due("setDriver(0, 0)", 0)
            .due("driver(0, 0, 0)", 0)
            .due("driver(1, 0, 3)", 0)
            .due("driver(1, 0, 4)", -10)
            .due("driver(0, 1, 0)", 6)
            .due("setDriver(1, 9999)", 0)
            .due("driver(1, 1, 11)", 9999)
            .due("driver(0, 0, 0)", 0);
    }

    private static void refuses() {
        Run.with("what setDriver refuses", "addDriver(5)", "addLine('d', 0, 0)", "approve(0, 0, 0)")
            .throwing("setDriver(1, 5)", IndexOutOfBoundsException.class)
            .throwing("setDriver(-1, 5)", IndexOutOfBoundsException.class)
            .throwing("setDriver(6, 5)", IndexOutOfBoundsException.class)
            .throwing("setDriver(1, 10000)", IndexOutOfBoundsException.class)
            .throwing("setDriver(-1, -1)", IndexOutOfBoundsException.class)
            .throwing("setDriver(2147483647, 0)", IndexOutOfBoundsException.class)
            .throwing("setDriver(0, 10000)", IllegalArgumentException.class)
            .throwing("setDriver(0, -1)", IllegalArgumentException.class)
            .due("driver(0, 0, 0)", 5)
            .due("state(0, 0)", 'a');
    }

    private static void countsWhatIsOpenAgainByThisAlone() {
        Run.with("approvals that drift", "addDriver(100)", "addDriver(50)", "addLine('d', 0, 0)",
                "addLine('d', 1, 0)", "addLine('s', 0, 1)", "approve(0, 0, 10)", "approve(0, 11, 0)",
                "approve(1, 0, 0)", "approve(2, 5, 20)")
            .due("setDriver(0, 100)", 0)
            .due("setDriver(0, 110)", 1)
            .due("state(0, 11)", 'o')
            .due("state(0, 0)", 'a')
            .due("setDriver(0, 90)", 0)
            .due("setDriver(0, 89)", 1)
            .due("state(0, 0)", 'o')
            .due("setDriver(0, 120)", 0)
            .due("state(2, 5)", 'a')
            .due("setDriver(0, 121)", 1)
            .due("state(2, 5)", 'o')
            .due("setDriver(1, 51)", 1)
            .due("open()", 4)
            .due("setDriver(0, 100)", 0)
            .due("setDriver(1, 50)", 0)
            .due("open()", 4);
        Run.with("several at once", "addDriver(100)", "addLine('d', 0, 0)", "addLine('s', 0, 0)",
                "approve(0, 0, 1)", "approve(0, 7, 2)", "approve(1, 3, 3)", "approve(1, 4, 4)")
            .due("setDriver(0, 102)", 2)
            .due("state(0, 7)", 'a')
            .due("state(1, 4)", 'a')
            .due("open()", 2);
    }

    private static void opensWhereThereIsNoNumber() {
        Run.with("an approval without a number", "addDriver(9999)", "addLine('d', 0, 0)", "addLine('p', 0, 0)",
                "addLine('p', 1, 0)", "setDriver(0, 9000)", "addLine('s', 2, 2)", "setDriver(0, 100)",
                "approve(3, 2, 9999)", "approve(2, 2, 9999)", "approve(1, 2, 9999)")
            .due("setDriver(0, 9999)", 3)
            .due("number(0, 2, 2)", 99970002)
            .due("number(0, 3, 2)", UnsupportedOperationException.class)
            .due("state(3, 2)", 'o')
            .due("drift(3, 2)", UnsupportedOperationException.class)
            .due("setDriver(0, 100)", 0)
            .due("state(3, 2)", 'o')
            .due("drift(3, 2)", 0);
    }
}

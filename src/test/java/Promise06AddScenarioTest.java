/** Promise 6: addScenario. */
public final class Promise06AddScenarioTest {
    public static void main(String[] args) {
        Run.with("scenarios are numbered from 1, up to 3", "addDriver(10)")
            .throwing("addScenario(1)", IndexOutOfBoundsException.class)
            .throwing("addScenario(-1)", IndexOutOfBoundsException.class)
            .due("addScenario(0)", 1)
            .due("differ(1, 0, 0, 5)", 1)
            .due("addScenario(1)", 2)
            .due("driver(2, 0, 0)", 15)
            .due("differ(2, 0, 0, 100)", 1)
            .throwing("addScenario(3)", IndexOutOfBoundsException.class)
            .due("addScenario(0)", 3)
            .due("driver(3, 0, 0)", 10)
            .due("differ(3, 0, 0, 1)", 1)
            .due("driver(3, 0, 0)", 11)
            .due("driver(2, 0, 0)", 115)
            .throwing("addScenario(0)", IllegalStateException.class)
            .throwing("addScenario(3)", IllegalStateException.class)
            .throwing("addScenario(4)", IndexOutOfBoundsException.class)
            .throwing("addScenario(-2147483648)", IndexOutOfBoundsException.class)
            .due("driver(4, 0, 0)", IndexOutOfBoundsException.class);
        Run.end();
    }
}

/** Promise 11: effect. */
public final class Promise11EffectTest {
    private static final Class<IndexOutOfBoundsException> INDEX = IndexOutOfBoundsException.class;
    private static final Class<UnsupportedOperationException> NONE = UnsupportedOperationException.class;

    public static void main(String[] args) {
        countsInTheOrderOfTheDrivers();
        countsThoseOfTheParents();
        keepsActuals();
        throwsIfOneIsNone();
        refuses();
        Run.end();
    }

    private static void countsInTheOrderOfTheDrivers() {
        Run.with("effects in their order", "addDriver(100)", "addDriver(200)", "addDriver(300)", "addLine('d', 0, 0)",
                "addLine('d', 1, 0)", "addLine('d', 2, 0)", "addLine('p', 0, 1)", "addLine('p', 3, 2)",
                "addScenario(0)", "differ(1, 2, 0, 60)", "differ(1, 1, 0, -50)", "differ(1, 0, 0, 20)")
            .seen("number(0, 4, 0)", 600)
            .seen("number(1, 4, 0)", 648)
            .seen("effect(1, 0, 4, 0)", 120)
            .seen("effect(1, 1, 4, 0)", -180)
            .seen("effect(1, 2, 4, 0)", 108)
            .seen("effect(1, 1, 0, 0)", 0)
            .seen("effect(1, 1, 1, 0)", -50)
            .seen("effect(0, 0, 4, 0)", 0)
            .seen("effect(0, 2, 4, 11)", 0);
    }

    private static void countsThoseOfTheParents() {
        Run.with("effects of parents", "addDriver(200)", "addDriver(30)", "addLine('d', 0, 0)", "addLine('d', 1, 0)",
                "addLine('s', 0, 1)", "addLine('m', 1, 0)", "addLine('p', 2, 3)", "addScenario(0)", "addScenario(1)",
                "differ(1, 0, 3, 50)", "differ(2, 1, 2, -40)", "differ(2, 0, 5, 1)", "addScenario(0)")
            .seen("effect(2, 0, 4, 5)", -230)
            .seen("effect(2, 1, 4, 5)", -8)
            .seen("effect(2, 0, 0, 5)", 51)
            .seen("effect(2, 0, 0, 4)", 50)
            .seen("effect(2, 0, 0, 2)", 0)
            .seen("effect(1, 0, 0, 5)", 50)
            .seen("effect(1, 1, 4, 5)", 0)
            .seen("effect(3, 0, 4, 5)", 0);
    }

    private static void keepsActuals() {
        Run.with("effects with actuals", "addDriver(10)", "addDriver(20)", "addLine('d', 0, 0)", "addLine('d', 1, 0)",
                "addLine('s', 0, 1)", "addScenario(0)", "differ(1, 0, 0, 5)", "differ(1, 1, 0, 7)",
                "actual(0, 0, 99)")
            .seen("effect(1, 0, 2, 0)", 0)
            .seen("effect(1, 1, 2, 0)", 7)
            .seen("effect(1, 0, 2, 1)", 5)
            .due("actual(2, 0, 1)", 0)
            .seen("effect(1, 1, 2, 0)", 0);
    }

    /** In the first run line 4 has a number only with the difference for driver 1, in the second only without. */
    private static void throwsIfOneIsNone() {
        Run.with("effects without a number", "addDriver(9000)", "addDriver(999)", "addDriver(0)",
                "addLine('d', 0, 0)", "addLine('d', 1, 0)", "addLine('p', 0, 0)", "addLine('p', 0, 1)",
                "addLine('p', 2, 3)", "addLine('d', 2, 0)", "addScenario(0)",
                "differ(1, 1, 0, -900)", "differ(1, 0, 0, 999)", "differ(1, 2, 0, 1)")
            .seen("number(1, 4, 0)", 98970202)
            .throwing("number(0, 4, 0)", NONE)
            .throwing("effect(1, 0, 4, 0)", NONE)
            .throwing("effect(1, 1, 4, 0)", NONE)
            .seen("effect(1, 2, 4, 0)", 0)
            .throwing("effect(0, 2, 4, 0)", NONE)
            .seen("effect(1, 1, 3, 0)", 9899 - 99890)
            .throwing("effect(2, 1, 4, 0)", INDEX);
        Run.with("an effect from a number to none", "addDriver(9000)", "addDriver(120)", "addDriver(0)",
                "addLine('d', 0, 0)", "addLine('d', 1, 0)", "addLine('p', 0, 0)", "addLine('p', 0, 1)",
                "addLine('p', 2, 3)", "addScenario(0)", "differ(1, 1, 0, 6)", "differ(1, 2, 0, -6)")
            .seen("number(0, 4, 0)", 87480000)
            .seen("effect(1, 0, 4, 0)", 0)
            .seen("effect(1, 1, 4, 0)", 4374000)
            .due("differ(1, 1, 0, 100)", 3)
            .throwing("number(1, 4, 0)", NONE)
            .seen("effect(1, 0, 4, 0)", 0)
            .throwing("effect(1, 1, 4, 0)", NONE)
            .throwing("effect(1, 2, 4, 0)", NONE);
        Run.with("an effect of the whole range", "addDriver(1)", "addLine('d', 0, 0)", "actual(0, 0, 9999999)",
                "addDriver(0)", "addLine('d', 1, 0)", "addLine('p', 0, 1)", "addScenario(0)",
                "differ(1, 1, 0, 999)", "addScenario(0)", "differ(2, 1, 0, -999)", "addDriver(999)",
                "addScenario(2)")
            .seen("number(2, 2, 0)", -99899990)
            .seen("effect(2, 1, 2, 0)", -99899990)
            .due("setDriver(1, 999)", 0)
            .seen("number(2, 2, 0)", 0)
            .seen("effect(2, 1, 2, 0)", -99899990)
            .due("differ(3, 1, 0, -999)", 1)
            .seen("effect(3, 1, 2, 0)", -199799980);
    }

    private static void refuses() {
        Run.with("what effect refuses", "addDriver(1)", "addDriver(2)", "addDriver(3)", "addLine('d', 0, 0)",
                "addLine('d', 1, 0)", "addScenario(0)")
            .seen("effect(1, 2, 1, 11)", 0)
            .throwing("effect(2, 0, 0, 0)", INDEX)
            .throwing("effect(-1, 0, 0, 0)", INDEX)
            .throwing("effect(0, 3, 0, 0)", INDEX)
            .throwing("effect(0, -1, 0, 0)", INDEX)
            .throwing("effect(0, 0, 2, 0)", INDEX)
            .throwing("effect(0, 0, -1, 0)", INDEX)
            .throwing("effect(0, 0, 0, 12)", INDEX)
            .throwing("effect(0, 0, 0, -1)", INDEX)
            .throwing("effect(0, 2147483647, 0, 0)", INDEX);
    }
}

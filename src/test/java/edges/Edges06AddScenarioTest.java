/** The edges that the document names in promise 6, addScenario. */
public final class Edges06AddScenarioTest {
    public static void main(String[] args) {
        withoutDifferences();
        throwsIfThereIsNoSuchScenario();
        throwsIfThereAre4Scenarios();
        theFirstExceptionIsThrown();
        Run.end();
    }

    private static void withoutDifferences() {
        Run.with("Adds a scenario without differences", "addDriver(5)", "addScenario(0)", "differ(1, 0, 0, 1)")
            .due("addScenario(0)", 2)
            .seen("driver(2, 0, 11)", 5)
            .due("differ(2, 0, 0, 30)", 1)
            .due("addScenario(1)", 3)
            .seen("driver(3, 0, 11)", 6)
            .due("differ(3, 0, 0, 700)", 1);
    }

    private static void throwsIfThereIsNoSuchScenario() {
        Run.with("IndexOutOfBoundsException if there is no such scenario", "addDriver(5)")
            .throwingEach(Thrown.INDEX, "addScenario(1)", "addScenario(-1)", "addScenario(3)", "addScenario(4)",
                "addScenario(-2147483648)", "addScenario(2147483647)")
            .due("addScenario(0)", 1)
            .throwingEach(Thrown.INDEX, "addScenario(2)", "addScenario(-1)")
            .due("addScenario(1)", 2);
    }

    private static void throwsIfThereAre4Scenarios() {
        Run.with("IllegalStateException if there are 4 scenarios", "addDriver(5)", "addScenario(0)", "addScenario(1)")
            .due("addScenario(2)", 3)
            .throwingEach(Thrown.STATE, "addScenario(0)", "addScenario(1)", "addScenario(2)", "addScenario(3)")
            .throwing("driver(4, 0, 0)", Thrown.INDEX);
    }

    private static void theFirstExceptionIsThrown() {
        Run.with("the one that is documented first: no such scenario, and 4 scenarios", "addScenario(0)",
                "addScenario(0)", "addScenario(0)")
            .throwingEach(Thrown.INDEX, "addScenario(4)", "addScenario(-1)")
            .throwing("addScenario(3)", Thrown.STATE);
    }
}

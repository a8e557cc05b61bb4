/** The edges that the document names in promise 7, differ. */
public final class Edges07DifferTest {
    public static void main(String[] args) {
        inAdditionToThoseForTheSameDriver();
        theNumberMinus999();
        theNumber999();
        returnsTheNumberOfDifferencesOfTheScenario();
        throwsIfThereIsNoSuchScenario();
        throwsIfThereIsNoSuchDriver();
        throwsIfThereIsNoSuchMonth();
        throwsIfTheNumberIsOutOfRange();
        throwsIfTheScenarioIsTheBase();
        throwsIfThereAre12DifferencesInAll();
        theFirstExceptionIsThrown();
        Run.end();
    }

    private static Run two(String name, String... calls) {
        return Run.with(name, "addDriver(5)", "addDriver(6)", "addScenario(0)", "addScenario(1)").and(calls);
    }

    private static void inAdditionToThoseForTheSameDriver() {
        two("in addition to those for the same driver", "differ(1, 0, 3, 10)")
            .due("differ(1, 0, 3, 10)", 2)
            .seen("driver(1, 0, 2)", 5)
            .seen("driver(1, 0, 3)", 25)
            .due("differ(1, 0, 4, -20)", 3)
            .seen("driver(1, 0, 3)", 25)
            .seen("driver(1, 0, 4)", 5);
    }

    private static void theNumberMinus999() {
        two("the number that is added, -999 to 999: -999")
            .throwing("differ(1, 0, 0, -1000)", Thrown.ARGUMENT)
            .due("differ(1, 0, 0, -999)", 1)
            .seen("driver(1, 0, 0)", -994);
    }

    private static void theNumber999() {
        two("the number that is added, -999 to 999: 999")
            .throwing("differ(1, 0, 0, 1000)", Thrown.ARGUMENT)
            .due("differ(1, 0, 0, 999)", 1)
            .seen("driver(1, 0, 0)", 1004);
    }

    private static void returnsTheNumberOfDifferencesOfTheScenario() {
        two("Returns the number of differences of the scenario")
            .due("differ(1, 0, 0, 1)", 1)
            .due("differ(1, 1, 11, 1)", 2)
            .due("differ(2, 0, 0, 1)", 1)
            .due("differ(2, 0, 0, 0)", 2)
            .due("differ(1, 0, 0, -1)", 3)
            .and("addScenario(2)")
            .due("differ(3, 0, 0, 1)", 1);
    }

    private static void throwsIfThereIsNoSuchScenario() {
        two("IndexOutOfBoundsException if there is no such scenario")
            .throwingEach(Thrown.INDEX, "differ(3, 0, 0, 1)", "differ(-1, 0, 0, 1)", "differ(4, 0, 0, 1)",
                "differ(-2147483648, 0, 0, 1)", "differ(2147483647, 0, 0, 1)")
            .due("differ(2, 0, 0, 1)", 1);
    }

    private static void throwsIfThereIsNoSuchDriver() {
        two("IndexOutOfBoundsException if there is no such driver")
            .throwingEach(Thrown.INDEX, "differ(1, 2, 0, 1)", "differ(1, -1, 0, 1)", "differ(1, 5, 0, 1)",
                "differ(1, 6, 0, 1)", "differ(1, -2147483648, 0, 1)", "differ(1, 2147483647, 0, 1)")
            .due("differ(1, 1, 0, 1)", 1);
    }

    private static void throwsIfThereIsNoSuchMonth() {
        two("IndexOutOfBoundsException if there is no such month")
            .throwingEach(Thrown.INDEX, "differ(1, 0, -1, 1)", "differ(1, 0, 12, 1)", "differ(1, 0, -2147483648, 1)",
                "differ(1, 0, 2147483647, 1)")
            .due("differ(1, 0, 0, 1)", 1)
            .due("differ(1, 0, 11, 1)", 2);
    }

    private static void throwsIfTheNumberIsOutOfRange() {
        two("IllegalArgumentException if the number is out of range")
            .throwingEach(Thrown.ARGUMENT, "differ(1, 0, 0, -1000)", "differ(1, 0, 0, 1000)",
                "differ(1, 0, 0, -2147483648)", "differ(1, 0, 0, 2147483647)")
            .due("differ(1, 0, 0, 0)", 1);
    }

    private static void throwsIfTheScenarioIsTheBase() {
        two("UnsupportedOperationException if the scenario is the base")
            .throwingEach(Thrown.UNSUPPORTED, "differ(0, 0, 0, 1)", "differ(0, 1, 11, -999)", "differ(0, 0, 0, 0)",
                "differ(0, 0, 0, 999)")
            .due("differ(1, 0, 0, 1)", 1);
    }

    private static Run full(String name) {
        Run run = two(name);
        for (int difference = 1; difference <= 6; difference++) {
            run.due("differ(1, 0, 0, 1)", difference).due("differ(2, 1, 0, 1)", difference);
        }
        return run;
    }

    private static void throwsIfThereAre12DifferencesInAll() {
        full("IllegalStateException if there are 12 differences in all")
            .throwingEach(Thrown.STATE, "differ(1, 0, 0, 1)", "differ(2, 1, 11, 0)", "differ(1, 1, 0, -999)")
            .and("addScenario(0)")
            .throwing("differ(3, 0, 0, 1)", Thrown.STATE)
            .seen("driver(1, 0, 0)", 11)
            .seen("driver(2, 1, 0)", 12);
    }

    private static void theFirstExceptionIsThrown() {
        String name = "the one that is documented first: ";
        two(name + "no such scenario, driver or month, and the number out of range")
            .throwingEach(Thrown.INDEX, "differ(3, 0, 0, 1000)", "differ(1, 2, 0, -1000)", "differ(1, 0, 12, 1000)");
        two(name + "no such driver or month, and the base")
            .throwingEach(Thrown.INDEX, "differ(0, 2, 0, 1)", "differ(0, 0, 12, 1)", "differ(0, -1, -1, 1000)");
        full(name + "no such scenario, driver or month, and 12 differences")
            .throwingEach(Thrown.INDEX, "differ(3, 0, 0, 1)", "differ(1, 2, 0, 1)", "differ(1, 0, 12, 1)");
        two(name + "the number out of range, and the base")
            .throwingEach(Thrown.ARGUMENT, "differ(0, 0, 0, 1000)", "differ(0, 0, 0, -1000)");
        full(name + "the number out of range, and 12 differences")
            .throwingEach(Thrown.ARGUMENT, "differ(1, 0, 0, 1000)", "differ(1, 0, 0, -1000)", "differ(0, 0, 0, 1000)");
        full(name + "the base, and 12 differences").throwing("differ(0, 0, 0, 1)", Thrown.UNSUPPORTED);
    }
}

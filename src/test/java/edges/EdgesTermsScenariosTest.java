/** The edges that the document names in "Terms: Scenarios". */
public final class EdgesTermsScenariosTest {
    public static void main(String[] args) {
        atMost4ScenariosAreNumberedFrom0();
        theBaseIsThereAtFirst();
        aParentHasALowerNumber();
        aScenarioOtherThanTheBaseHasDifferences();
        addsANumberFromMinus999To999();
        addsFromAMonthOn();
        addsThoseOfTheParentsAndSoOn();
        addsAllForTheSameDriverAndMonth();
        isForOneDriver();
        atMost12DifferencesInOneScenario();
        atMost12DifferencesInSeveralScenarios();
        Run.end();
    }

    private static void atMost4ScenariosAreNumberedFrom0() {
        Run.with("At most 4 scenarios are numbered from 0", "addDriver(10)")
            .throwing("driver(1, 0, 0)", Thrown.INDEX)
            .due("addScenario(0)", 1)
            .throwing("driver(2, 0, 0)", Thrown.INDEX)
            .due("addScenario(0)", 2)
            .throwing("driver(3, 0, 0)", Thrown.INDEX)
            .due("addScenario(0)", 3)
            .seen("driver(3, 0, 0)", 10)
            .throwing("addScenario(0)", Thrown.STATE)
            .throwing("driver(4, 0, 0)", Thrown.INDEX)
            .throwing("driver(-1, 0, 0)", Thrown.INDEX);
    }

    private static void theBaseIsThereAtFirst() {
        Run.with("the scenario 0 is the base, which is there at first", "addDriver(10)", "addLine('d', 0, 0)")
            .seen("driver(0, 0, 0)", 10)
            .seen("number(0, 0, 11)", 10)
            .seen("year(0, 0)", 120L)
            .throwing("number(1, 0, 11)", Thrown.INDEX);
    }

    private static void aParentHasALowerNumber() {
        String name = "a parent, which is a scenario with a lower number";
        Run.with(name, "addDriver(10)")
            .throwingEach(Thrown.INDEX, "addScenario(1)", "addScenario(2)")
            .due("addScenario(0)", 1)
            .throwingEach(Thrown.INDEX, "addScenario(2)", "addScenario(3)")
            .due("addScenario(1)", 2)
            .throwingEach(Thrown.INDEX, "addScenario(3)", "addScenario(4)")
            .due("addScenario(2)", 3);
        for (int parent = 0; parent < 3; parent++) {
            Run.with(name, "addDriver(10)", "addScenario(0)", "addScenario(0)", "differ(1, 0, 0, 1)",
                    "differ(2, 0, 0, 2)")
                .due("addScenario(" + parent + ")", 3)
                .seen("driver(3, 0, 0)", 10 + parent);
        }
    }

    private static void aScenarioOtherThanTheBaseHasDifferences() {
        Run.with("A scenario other than the base has differences", "addDriver(10)", "addScenario(0)",
                "addScenario(0)", "addScenario(0)")
            .throwing("differ(0, 0, 0, 1)", Thrown.UNSUPPORTED)
            .due("differ(1, 0, 0, 1)", 1)
            .due("differ(2, 0, 0, 2)", 1)
            .due("differ(3, 0, 0, 3)", 1)
            .seen("driver(0, 0, 0)", 10)
            .seen("driver(1, 0, 0)", 11)
            .seen("driver(2, 0, 0)", 12)
            .seen("driver(3, 0, 0)", 13);
    }

    private static void addsANumberFromMinus999To999() {
        String name = "adds a number from -999 to 999";
        Run.with(name, "addDriver(10)", "addScenario(0)")
            .throwing("differ(1, 0, 0, 1000)", Thrown.ARGUMENT)
            .due("differ(1, 0, 0, 999)", 1)
            .seen("driver(1, 0, 0)", 1009);
        Run.with(name, "addDriver(10)", "addScenario(0)")
            .throwing("differ(1, 0, 0, -1000)", Thrown.ARGUMENT)
            .due("differ(1, 0, 0, -999)", 1)
            .seen("driver(1, 0, 0)", -989);
        Run.with(name + ", also 0", "addDriver(10)", "addScenario(0)")
            .due("differ(1, 0, 0, 0)", 1)
            .seen("driver(1, 0, 0)", 10);
    }

    private static void addsFromAMonthOn() {
        String name = "to its value from a month on";
        Run.with(name, "addDriver(10)", "addScenario(0)", "differ(1, 0, 5, 1)")
            .seen("driver(1, 0, 0)", 10)
            .seen("driver(1, 0, 4)", 10)
            .seen("driver(1, 0, 5)", 11)
            .seen("driver(1, 0, 6)", 11)
            .seen("driver(1, 0, 11)", 11);
        Run.with(name + ", the first", "addDriver(10)", "addScenario(0)", "differ(1, 0, 0, 1)")
            .seen("driver(1, 0, 0)", 11)
            .seen("driver(1, 0, 11)", 11);
        Run.with(name + ", the last", "addDriver(10)", "addScenario(0)", "differ(1, 0, 11, 1)")
            .seen("driver(1, 0, 10)", 10)
            .seen("driver(1, 0, 11)", 11);
        Run.with("from this month or an earlier one on", "addDriver(10)", "addScenario(0)", "differ(1, 0, 4, 1)",
                "differ(1, 0, 5, 20)", "differ(1, 0, 6, 300)")
            .seen("driver(1, 0, 3)", 10)
            .seen("driver(1, 0, 4)", 11)
            .seen("driver(1, 0, 5)", 31)
            .seen("driver(1, 0, 6)", 331);
    }

    private static void addsThoseOfTheParentsAndSoOn() {
        String name = "of the scenario, of its parent, of the parent of this one, and so on";
        Run.with(name, "addDriver(0)", "addScenario(0)", "addScenario(1)", "addScenario(2)", "differ(1, 0, 0, 1)",
                "differ(2, 0, 0, 20)", "differ(3, 0, 0, 300)")
            .seen("driver(0, 0, 0)", 0)
            .seen("driver(1, 0, 0)", 1)
            .seen("driver(2, 0, 0)", 21)
            .seen("driver(3, 0, 0)", 321);
        Run.with(name + ", not of others", "addDriver(0)", "addScenario(0)", "addScenario(0)", "addScenario(1)",
                "differ(1, 0, 0, 1)", "differ(2, 0, 0, 20)", "differ(3, 0, 0, 300)")
            .seen("driver(1, 0, 0)", 1)
            .seen("driver(2, 0, 0)", 20)
            .seen("driver(3, 0, 0)", 301);
        Run.with(name + ", also those that come later", "addDriver(0)", "addScenario(0)", "addScenario(1)",
                "addScenario(2)")
            .due("differ(1, 0, 0, 7)", 1)
            .seen("driver(3, 0, 0)", 7);
    }

    private static void addsAllForTheSameDriverAndMonth() {
        Run.with("plus all differences for it", "addDriver(0)", "addScenario(0)", "addScenario(1)",
                "differ(1, 0, 3, 5)", "differ(1, 0, 3, 5)", "differ(2, 0, 3, 5)", "differ(2, 0, 3, -1)")
            .seen("driver(1, 0, 2)", 0)
            .seen("driver(1, 0, 3)", 10)
            .seen("driver(2, 0, 3)", 14);
    }

    private static void isForOneDriver() {
        Run run = Run.with("a difference is for a driver", "addDriver(1)", "addDriver(2)", "addDriver(3)",
            "addDriver(4)", "addDriver(5)", "addDriver(6)", "addScenario(0)", "differ(1, 0, 0, 10)",
            "differ(1, 5, 0, 20)");
        run.seen("driver(1, 0, 0)", 11).seen("driver(1, 5, 0)", 26);
        for (int driver = 1; driver < 5; driver++) {
            run.seen("driver(1, " + driver + ", 11)", driver + 1);
        }
    }

    private static void atMost12DifferencesInOneScenario() {
        Run run = Run.with("At most 12 differences are there in all: in one scenario", "addDriver(0)",
            "addScenario(0)", "addScenario(0)");
        for (int difference = 1; difference <= 12; difference++) {
            run.due("differ(1, 0, 0, 1)", difference);
        }
        run.throwing("differ(1, 0, 0, 1)", Thrown.STATE)
            .throwing("differ(2, 0, 0, 1)", Thrown.STATE)
            .seen("driver(1, 0, 0)", 12)
            .seen("driver(2, 0, 0)", 0);
    }

    private static void atMost12DifferencesInSeveralScenarios() {
        Run run = Run.with("At most 12 differences are there in all: in several", "addDriver(0)", "addDriver(0)",
            "addScenario(0)", "addScenario(1)", "addScenario(0)");
        for (int difference = 1; difference <= 4; difference++) {
            run.due("differ(1, 0, 0, 1)", difference)
                .due("differ(2, 1, 11, 1)", difference)
                .due("differ(3, 0, 5, 0)", difference);
        }
        for (int scenario = 1; scenario <= 3; scenario++) {
            run.throwing("differ(" + scenario + ", 0, 0, 1)", Thrown.STATE)
                .throwing("differ(" + scenario + ", 1, 11, 0)", Thrown.STATE);
        }
    }
}

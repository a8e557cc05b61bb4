/** The edges that the document names in promise 11, effect. */
public final class Edges11EffectTest {
    public static void main(String[] args) {
        thisDriverAndThoseWithLowerNumbersAlone();
        allEffectsAddUp();
        noneInTheBase();
        noneWithoutADifference();
        fromTheMonthOnAlone();
        theGreatestAndTheLeastEffect();
        throwsIfThereIsNoneWithTheDriver();
        throwsIfThereIsNoneWithoutTheDriver();
        throwsIfThereIsNoneOfBoth();
        aNumberThatIsNotAskedForMayBeNone();
        throwsIfThereIsNoSuchScenario();
        throwsIfThereIsNoSuchDriver();
        throwsIfThereIsNoSuchLine();
        throwsIfThereIsNoSuchMonth();
        theFirstExceptionIsThrown();
        Run.end();
    }

    /** Line 3 is driver 0 times driver 1 times driver 2 / 100 / 100. */
    private static Run product(String name, String... calls) {
        return Run.with(name, "addDriver(100)", "addDriver(100)", "addDriver(100)", "addLine('d', 0, 0)",
            "addLine('d', 1, 0)", "addLine('d', 2, 0)", "addLine('p', 0, 1)", "addLine('p', 3, 2)", "addScenario(0)",
            "addScenario(1)").and(calls);
    }

    private static void thisDriverAndThoseWithLowerNumbersAlone() {
        product("for this driver and for those with lower numbers", "differ(1, 2, 0, 300)", "differ(2, 1, 0, 200)",
                "differ(1, 0, 0, 100)")
            .seen("number(2, 4, 0)", 2400)
            .seen("effect(2, 0, 4, 0)", 100)
            .seen("effect(2, 1, 4, 0)", 400)
            .seen("effect(2, 2, 4, 0)", 1800)
            .seen("effect(1, 0, 4, 0)", 100)
            .seen("effect(1, 1, 4, 0)", 0)
            .seen("effect(1, 2, 4, 0)", 600);
    }

    private static void allEffectsAddUp() {
        Run run = new Run("the effect of the first and of the last driver");
        for (int driver = 0; driver < 6; driver++) {
            run.and("addDriver(100)", "addLine('d', " + driver + ", 0)");
        }
        run.and("addScenario(0)", "addLine('s', 0, 1)", "addLine('p', 6, 5)");
        for (int driver = 0; driver < 6; driver++) {
            run.and("differ(1, " + driver + ", 0, " + (driver + 1) * 100 + ")");
        }
        run.seen("number(0, 7, 0)", 200).seen("number(1, 7, 0)", 3500)
            .seen("effect(1, 0, 7, 0)", 100)
            .seen("effect(1, 1, 7, 0)", 200)
            .seen("effect(1, 2, 7, 0)", 0)
            .seen("effect(1, 3, 7, 0)", 0)
            .seen("effect(1, 4, 7, 0)", 0)
            .seen("effect(1, 5, 7, 0)", 3000);
    }

    private static void noneInTheBase() {
        product("the effect ... of a scenario: the base", "differ(1, 0, 0, 100)", "differ(2, 1, 0, 100)")
            .seen("effect(0, 0, 4, 0)", 0)
            .seen("effect(0, 1, 4, 0)", 0)
            .seen("effect(0, 2, 4, 11)", 0);
    }

    private static void noneWithoutADifference() {
        product("if only the differences for this driver ... counted: none", "differ(2, 0, 0, 100)",
                "differ(2, 2, 0, 100)")
            .seen("effect(2, 1, 4, 0)", 0)
            .seen("effect(1, 0, 4, 0)", 0)
            .seen("effect(1, 2, 4, 0)", 0);
    }

    private static void fromTheMonthOnAlone() {
        product("the effect ... on a number: before and from the month on", "differ(1, 1, 5, 7)", "differ(2, 1, 11, 1)")
            .seen("effect(2, 1, 1, 4)", 0)
            .seen("effect(2, 1, 1, 5)", 7)
            .seen("effect(2, 1, 1, 10)", 7)
            .seen("effect(2, 1, 1, 11)", 8);
    }

    /** Line 2 is driver 0 times 3000300 / 100, which is 99999999 for 3333. */
    private static void theGreatestAndTheLeastEffect() {
        Run run = Run.with("Returns the effect: the greatest and the least", "addDriver(3333)", "addLine('d', 0, 0)",
            "addLine('d', 0, 0)", "addLine('p', 0, 1)", "addLine('m', 0, 0)", "addLine('m', 3, 2)",
            "actual(1, 0, 3000300)", "addScenario(0)");
        for (int i = 0; i < 6; i++) {
            run.and("differ(1, 0, 0, -999)");
        }
        run.and("differ(1, 0, 0, -672)")
            .seen("number(1, 2, 0)", -99999999)
            .seen("effect(1, 0, 2, 0)", -199999998)
            .seen("effect(1, 0, 4, 0)", 199999998)
            .and("differ(1, 0, 0, -1)")
            .throwing("effect(1, 0, 2, 0)", Thrown.UNSUPPORTED)
            .throwing("effect(1, 0, 4, 0)", Thrown.UNSUPPORTED);
    }

    /** In month 0 line 3 is 99999990 plus driver 0 plus driver 1. */
    private static Run nearTheEnd(String name, int one, int other) {
        return Run.with(name, "addDriver(" + one + ")", "addDriver(" + other + ")", "addDriver(3)",
            "addLine('d', 0, 0)", "addLine('d', 1, 0)", "addLine('s', 0, 1)", "addLine('d', 2, 0)",
            "addLine('d', 2, 0)", "addLine('p', 3, 4)", "addLine('s', 5, 2)", "actual(3, 0, 9999999)",
            "actual(4, 0, 1000)", "addScenario(0)");
    }

    private static void throwsIfThereIsNoneWithTheDriver() {
        nearTheEnd("if there is none of one ... number: with the driver", 5, 3)
            .and("differ(1, 0, 0, 1)").seen("effect(1, 0, 6, 0)", 1)
            .and("differ(1, 0, 0, 1)").throwing("effect(1, 0, 6, 0)", Thrown.UNSUPPORTED);
        nearTheEnd("if there is none of one ... number: with the driver, the second", 5, 3)
            .and("differ(1, 1, 0, 1)").seen("effect(1, 1, 6, 0)", 1)
            .and("differ(1, 1, 0, 1)").throwing("effect(1, 1, 6, 0)", Thrown.UNSUPPORTED)
            .seen("effect(1, 0, 6, 0)", 0);
    }

    private static void throwsIfThereIsNoneWithoutTheDriver() {
        nearTheEnd("if there is none of one ... number: without the driver", 5, 5)
            .and("differ(1, 0, 0, -1)")
            .seen("number(1, 6, 0)", 99999999)
            .throwing("number(0, 6, 0)", Thrown.UNSUPPORTED)
            .throwing("effect(1, 0, 6, 0)", Thrown.UNSUPPORTED)
            .seen("effect(1, 1, 6, 0)", 0);
        nearTheEnd("if there is none of one ... number: without the driver, the second", 5, 4)
            .and("differ(1, 0, 0, 1)", "differ(1, 1, 0, -1)")
            .seen("number(0, 6, 0)", 99999999)
            .seen("number(1, 6, 0)", 99999999)
            .throwing("effect(1, 0, 6, 0)", Thrown.UNSUPPORTED)
            .throwing("effect(1, 1, 6, 0)", Thrown.UNSUPPORTED)
            .seen("effect(1, 2, 6, 0)", 0);
    }

    private static void throwsIfThereIsNoneOfBoth() {
        nearTheEnd("if there is none ... of both numbers", 5, 5)
            .throwing("effect(0, 0, 6, 0)", Thrown.UNSUPPORTED)
            .throwing("effect(1, 2, 6, 0)", Thrown.UNSUPPORTED)
            .and("differ(1, 1, 0, 1)")
            .throwing("effect(1, 0, 6, 0)", Thrown.UNSUPPORTED)
            .throwing("effect(1, 1, 6, 0)", Thrown.UNSUPPORTED)
            .and("differ(1, 2, 0, 1)")
            .throwing("effect(1, 2, 6, 0)", Thrown.UNSUPPORTED);
    }

    /** Neither the number of the scenario nor that of the base has to be there. */
    private static void aNumberThatIsNotAskedForMayBeNone() {
        nearTheEnd("if there is none of one of both numbers, not of another", 5, 5)
            .and("differ(1, 0, 0, -4)", "differ(1, 1, 0, -3)", "differ(1, 2, 0, 1)", "addScenario(1)",
                "differ(2, 1, 0, 9)")
            .throwing("number(0, 6, 0)", Thrown.UNSUPPORTED)
            .throwing("number(2, 6, 0)", Thrown.UNSUPPORTED)
            .throwing("effect(1, 0, 6, 0)", Thrown.UNSUPPORTED)
            .seen("effect(1, 1, 6, 0)", -3)
            .seen("effect(1, 2, 6, 0)", 0)
            .throwing("effect(2, 1, 6, 0)", Thrown.UNSUPPORTED)
            .seen("effect(2, 0, 2, 0)", -4);
    }

    private static void throwsIfThereIsNoSuchScenario() {
        product("IndexOutOfBoundsException if there is no such scenario")
            .throwingEach(Thrown.INDEX, "effect(3, 0, 0, 0)", "effect(-1, 0, 0, 0)", "effect(4, 0, 0, 0)",
                "effect(-2147483648, 0, 0, 0)", "effect(2147483647, 0, 0, 0)")
            .seen("effect(2, 0, 0, 0)", 0);
    }

    private static void throwsIfThereIsNoSuchDriver() {
        product("IndexOutOfBoundsException if there is no such driver")
            .throwingEach(Thrown.INDEX, "effect(1, 3, 0, 0)", "effect(1, -1, 0, 0)", "effect(1, 5, 0, 0)",
                "effect(1, 6, 0, 0)", "effect(1, -2147483648, 0, 0)", "effect(1, 2147483647, 0, 0)")
            .seen("effect(1, 2, 0, 0)", 0);
    }

    private static void throwsIfThereIsNoSuchLine() {
        product("IndexOutOfBoundsException if there is no such line")
            .throwingEach(Thrown.INDEX, "effect(1, 0, 5, 0)", "effect(1, 0, -1, 0)", "effect(1, 0, 9, 0)",
                "effect(1, 0, 10, 0)", "effect(1, 0, -2147483648, 0)", "effect(1, 0, 2147483647, 0)")
            .seen("effect(1, 0, 4, 0)", 0);
    }

    private static void throwsIfThereIsNoSuchMonth() {
        product("IndexOutOfBoundsException if there is no such month")
            .throwingEach(Thrown.INDEX, "effect(1, 0, 0, -1)", "effect(1, 0, 0, 12)", "effect(1, 0, 0, -2147483648)",
                "effect(1, 0, 0, 2147483647)")
            .seen("effect(1, 0, 0, 0)", 0)
            .seen("effect(1, 0, 0, 11)", 0);
    }

    private static void theFirstExceptionIsThrown() {
        Run.with("the one that is documented first: no such scenario, driver, line or month, and none",
                "addDriver(9999)", "addLine('d', 0, 0)", "addLine('p', 0, 0)", "addLine('p', 1, 1)")
            .throwingEach(Thrown.INDEX, "effect(1, 0, 2, 0)", "effect(0, 1, 2, 0)", "effect(0, 0, 3, 0)",
                "effect(0, 0, 2, 12)", "effect(-1, 0, 2, 0)", "effect(0, -1, 2, 0)", "effect(0, 0, 2, -1)")
            .throwing("effect(0, 0, 2, 0)", Thrown.UNSUPPORTED);
    }
}

/** The edges that the document names in promise 12, seek. */
public final class Edges12SeekTest {
    public static void main(String[] args) {
        theValue0();
        theValue999();
        atLeastAGoal();
        anyIntIsAGoal();
        theLeastValueOfSeveral();
        valuesWithNoneAtFirstArePassedOver();
        valuesWithNoneInBetweenArePassedOver();
        valuesWithNoneAreAllThereAre();
        inTheBaseAlone();
        theOtherDriversKeepTheirValues();
        aLineThatDoesNotNeedTheDriver();
        onlyWhatIsNeededIsFound();
        throwsIfThereIsNoSuchDriver();
        throwsIfThereIsNoSuchLine();
        throwsIfThereIsNoSuchMonth();
        throwsIfThereIsNoSuchValue();
        theFirstExceptionIsThrown();
        Run.end();
    }

    private static Run one(String name, int value, String... calls) {
        return Run.with(name, "addDriver(" + value + ")", "addLine('d', 0, 0)").and(calls);
    }

    private static void theValue0() {
        one("from 0 to 999: 0", 500, "addLine('s', 0, 0)", "addLine('m', 0, 1)")
            .seen("seek(0, 0, 0, 0)", 0)
            .seen("seek(0, 0, 0, -1)", 0)
            .seen("seek(0, 0, 0, 1)", 1)
            .seen("seek(0, 2, 0, 0)", 0)
            .throwing("seek(0, 2, 0, 1)", Thrown.NO_SUCH);
    }

    private static void theValue999() {
        one("from 0 to 999: 999", 9999, "addLine('s', 0, 0)")
            .seen("seek(0, 0, 0, 998)", 998)
            .seen("seek(0, 0, 0, 999)", 999)
            .throwing("seek(0, 0, 0, 1000)", Thrown.NO_SUCH)
            .throwing("seek(0, 0, 0, 9999)", Thrown.NO_SUCH)
            .seen("seek(0, 1, 0, 1997)", 999)
            .seen("seek(0, 1, 0, 1998)", 999)
            .throwing("seek(0, 1, 0, 1999)", Thrown.NO_SUCH);
    }

    private static void atLeastAGoal() {
        one("would be at least a goal", 5, "addLine('s', 0, 0)", "addLine('p', 0, 1)")
            .seen("seek(0, 1, 0, 99)", 50)
            .seen("seek(0, 1, 0, 100)", 50)
            .seen("seek(0, 1, 0, 101)", 51)
            .seen("seek(0, 2, 0, 2)", 10)
            .seen("seek(0, 2, 0, 3)", 13);
    }

    private static void anyIntIsAGoal() {
        one("a goal, any int", 5, "addLine('m', 0, 0)", "addLine('m', 1, 0)")
            .seen("seek(0, 0, 0, -2147483648)", 0)
            .seen("seek(0, 2, 0, -2147483648)", 0)
            .seen("seek(0, 2, 0, -99999999)", 0)
            .throwing("seek(0, 0, 0, 2147483647)", Thrown.NO_SUCH)
            .throwing("seek(0, 0, 0, 99999999)", Thrown.NO_SUCH);
    }

    /** Line 3 is x times (1000 - x) / 100, the same for x and 1000 - x, with the greatest number for 500. */
    private static Run hill(String name) {
        return Run.with(name, "addDriver(7)", "addDriver(1000)", "addLine('d', 0, 0)", "addLine('d', 1, 0)",
            "addLine('m', 1, 0)", "addLine('p', 0, 2)");
    }

    private static void theLeastValueOfSeveral() {
        hill("the least value")
            .seen("seek(0, 3, 0, 2500)", 500)
            .throwing("seek(0, 3, 0, 2501)", Thrown.NO_SUCH)
            .seen("seek(0, 3, 0, 9)", 1)
            .seen("seek(0, 3, 0, 0)", 0)
            .seen("seek(0, 3, 0, 2400)", 400)
            .seen("seek(0, 3, 0, 2401)", 401);
    }

    /** Line 4 leaves the range for every x below 100. */
    private static void valuesWithNoneAtFirstArePassedOver() {
        Run run = Run.with("values for which there is none are passed over: the first ones", "addDriver(5)",
            "addLine('d', 0, 0)", "addLine('d', 0, 0)", "addLine('m', 1, 0)", "addLine('d', 0, 0)",
            "addLine('p', 2, 3)", "actual(1, 0, 1000000)");
        run.and("actual(3, 0, 10001)")
            .seen("seek(0, 4, 0, -2147483648)", 100)
            .seen("seek(0, 4, 0, 99999999)", 100)
            .throwing("seek(0, 4, 0, 100000000)", Thrown.NO_SUCH)
            .and("actual(3, 0, -10001)")
            .seen("seek(0, 4, 0, -2147483648)", 100)
            .seen("seek(0, 4, 0, -99999999)", 100)
            .seen("seek(0, 4, 0, -99999998)", 101);
    }

    /** Line 5 is beyond the range for 500 alone, and line 7 is x where line 5 has a number. */
    private static void valuesWithNoneInBetweenArePassedOver() {
        hill("values for which there is none are passed over: in between")
            .and("addLine('d', 1, 0)", "addLine('p', 3, 4)", "addLine('m', 5, 5)", "addLine('s', 6, 0)",
                "actual(4, 0, 4000000)")
            .seen("seek(0, 7, 0, 499)", 499)
            .seen("seek(0, 7, 0, 500)", 501)
            .seen("seek(0, 7, 0, 501)", 501)
            .and("actual(4, 0, 3999999)")
            .seen("seek(0, 7, 0, 500)", 500);
    }

    private static void valuesWithNoneAreAllThereAre() {
        one("values for which there is none are passed over: all", 0, "addDriver(9999)", "addLine('d', 1, 0)",
                "addLine('p', 1, 1)", "addLine('p', 2, 2)", "addLine('s', 0, 3)")
            .throwing("seek(0, 4, 0, -2147483648)", Thrown.NO_SUCH)
            .throwing("seek(0, 3, 0, -2147483648)", Thrown.NO_SUCH)
            .and("actual(3, 0, -7)")
            .seen("seek(0, 4, 0, -7)", 0)
            .seen("seek(0, 4, 0, 0)", 7);
    }

    private static void inTheBaseAlone() {
        one("a line in the base", 5, "addScenario(0)", "differ(1, 0, 0, 100)")
            .seen("seek(0, 0, 0, 100)", 100)
            .seen("seek(0, 0, 11, 100)", 100);
        one("a line in the base: the other drivers too", 5, "addDriver(6)", "addLine('d', 1, 0)", "addLine('s', 0, 1)",
                "addScenario(0)", "differ(1, 1, 0, 50)")
            .seen("seek(0, 2, 0, 100)", 94)
            .seen("seek(1, 2, 0, 100)", 95);
    }

    private static void theOtherDriversKeepTheirValues() {
        Run.with("the least value of a driver", "addDriver(9999)", "addDriver(5)", "addDriver(0)",
                "addLine('d', 0, 0)", "addLine('d', 1, 0)", "addLine('s', 0, 1)")
            .seen("seek(1, 2, 0, 10000)", 1)
            .seen("seek(0, 2, 0, 1004)", 999)
            .throwing("seek(0, 2, 0, 1005)", Thrown.NO_SUCH)
            .seen("driver(0, 0, 0)", 9999)
            .seen("driver(0, 1, 0)", 5)
            .seen("seek(2, 2, 0, 10004)", 0)
            .throwing("seek(2, 2, 0, 10005)", Thrown.NO_SUCH);
    }

    private static void aLineThatDoesNotNeedTheDriver() {
        one("the number of a line ... would be at least a goal, with an actual", 5, "pass()", "actual(0, 0, 70)")
            .seen("seek(0, 0, 0, 70)", 0)
            .throwing("seek(0, 0, 0, 71)", Thrown.NO_SUCH)
            .seen("seek(0, 0, 1, 71)", 71);
    }

    private static void onlyWhatIsNeededIsFound() {
        one("passed over: not for what is not needed", 5, "addLine('p', 0, 0)", "addLine('p', 1, 1)",
                "addLine('p', 2, 2)", "addLine('s', 0, 0)")
            .throwing("seek(0, 3, 0, 2147483647)", Thrown.NO_SUCH)
            .seen("seek(0, 4, 0, 1900)", 950);
    }

    private static void throwsIfThereIsNoSuchDriver() {
        one("IndexOutOfBoundsException if there is no such driver", 5, "addDriver(6)", "addLine('d', 0, 0)",
                "addLine('d', 0, 0)")
            .throwingEach(Thrown.INDEX, "seek(2, 0, 0, 0)", "seek(-1, 0, 0, 0)", "seek(5, 0, 0, 0)", "seek(6, 0, 0, 0)",
                "seek(-2147483648, 0, 0, 0)", "seek(2147483647, 0, 0, 0)")
            .seen("seek(1, 0, 0, 0)", 0);
    }

    private static void throwsIfThereIsNoSuchLine() {
        one("IndexOutOfBoundsException if there is no such line", 5, "addLine('d', 0, 0)")
            .throwingEach(Thrown.INDEX, "seek(0, 2, 0, 0)", "seek(0, -1, 0, 0)", "seek(0, 9, 0, 0)", "seek(0, 10, 0, 0)",
                "seek(0, -2147483648, 0, 0)", "seek(0, 2147483647, 0, 0)")
            .seen("seek(0, 1, 0, 0)", 0);
    }

    private static void throwsIfThereIsNoSuchMonth() {
        one("IndexOutOfBoundsException if there is no such month", 5)
            .throwingEach(Thrown.INDEX, "seek(0, 0, -1, 0)", "seek(0, 0, 12, 0)", "seek(0, 0, -2147483648, 0)",
                "seek(0, 0, 2147483647, 0)")
            .seen("seek(0, 0, 0, 3)", 3)
            .seen("seek(0, 0, 11, 3)", 3);
    }

    private static void throwsIfThereIsNoSuchValue() {
        one("NoSuchElementException if there is no such value", 5, "approve(0, 0, 0)")
            .throwing("seek(0, 0, 0, 1000)", Thrown.NO_SUCH)
            .seen("seek(0, 0, 0, 999)", 999)
            .seen("driver(0, 0, 0)", 5)
            .seen("state(0, 0)", 'a')
            .seen("open()", 0);
    }

    private static void theFirstExceptionIsThrown() {
        one("the one that is documented first: no such driver, line or month, and no such value", 5)
            .throwingEach(Thrown.INDEX, "seek(1, 0, 0, 1000)", "seek(0, 1, 0, 1000)", "seek(0, 0, 12, 1000)",
                "seek(-1, 0, 0, 1000)", "seek(0, -1, 0, 1000)", "seek(0, 0, -1, 1000)")
            .throwing("seek(0, 0, 0, 1000)", Thrown.NO_SUCH);
    }
}

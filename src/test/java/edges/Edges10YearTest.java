/** The edges that the document names in promise 10, year. */
public final class Edges10YearTest {
    public static void main(String[] args) {
        theSumOverAllMonths();
        theGreatestAndTheLeastSum();
        throwsIfThereIsNoSuchScenario();
        throwsIfThereIsNoSuchLine();
        throwsIfThereIsNoneForAMonth();
        throwsIfThereIsNoneForAnyMonth();
        theFirstExceptionIsThrown();
        Run.end();
    }

    private static void theSumOverAllMonths() {
        Run run = Run.with("the sum of the numbers of a line over all months", "addDriver(0)", "addLine('d', 0, 0)");
        long sum = 0;
        for (int month = 0; month < 12; month++) {
            sum += 1L << month;
            run.and("actual(0, " + month + ", " + (1 << month) + ")").seen("year(0, 0)", sum);
            if (month < 11) {
                run.and("pass()");
            }
        }
        Run.with("the sum ... over all months: the last one alone", "addDriver(1)", "addLine('d', 0, 0)",
                "addScenario(0)", "differ(1, 0, 11, 100)")
            .seen("year(0, 0)", 12L)
            .seen("year(1, 0)", 112L)
            .and("differ(1, 0, 0, 1)")
            .seen("year(1, 0)", 124L);
    }

    /** Line 6 is 99999999 in each month, line 8 is -99999999, and line 9 would be beyond. */
    private static Run atTheEnds(String name) {
        return Run.with(name, "addDriver(9999)", "addDriver(1)", "addLine('d', 0, 0)", "addLine('p', 0, 0)",
            "addLine('d', 1, 0)", "addLine('s', 0, 2)", "addLine('p', 1, 3)", "addLine('s', 0, 3)",
            "addLine('s', 4, 5)", "addLine('m', 0, 0)", "addLine('m', 7, 6)", "addLine('s', 6, 2)");
    }

    private static void theGreatestAndTheLeastSum() {
        atTheEnds("Returns the sum: the greatest and the least")
            .seen("number(0, 6, 11)", 99999999)
            .seen("year(0, 6)", 1199999988L)
            .seen("year(0, 8)", -1199999988L)
            .seen("year(0, 7)", 0L)
            .throwing("year(0, 9)", Thrown.UNSUPPORTED);
    }

    private static void throwsIfThereIsNoSuchScenario() {
        Run.with("IndexOutOfBoundsException if there is no such scenario", "addDriver(5)", "addLine('d', 0, 0)",
                "addLine('d', 0, 0)", "addLine('d', 0, 0)", "addScenario(0)")
            .throwingEach(Thrown.INDEX, "year(2, 0)", "year(-1, 0)", "year(3, 0)", "year(4, 0)",
                "year(-2147483648, 0)", "year(2147483647, 0)")
            .seen("year(0, 0)", 60L)
            .seen("year(1, 0)", 60L);
    }

    private static void throwsIfThereIsNoSuchLine() {
        Run.with("IndexOutOfBoundsException if there is no such line", "addDriver(5)", "addDriver(5)", "addDriver(5)",
                "addLine('d', 0, 0)", "addLine('d', 0, 0)")
            .throwingEach(Thrown.INDEX, "year(0, 2)", "year(0, -1)", "year(0, 9)", "year(0, 10)",
                "year(0, -2147483648)", "year(0, 2147483647)")
            .seen("year(0, 0)", 60L)
            .seen("year(0, 1)", 60L);
    }

    private static Run quick(String name, int value) {
        return Run.with(name, "addDriver(" + value + ")", "addLine('d', 0, 0)", "addLine('p', 0, 0)",
            "addLine('p', 1, 1)", "addScenario(0)");
    }

    /** Line 2 has a number up to 3162 alone. */
    private static void throwsIfThereIsNoneForAMonth() {
        for (int month = 0; month < 12; month++) {
            Run run = quick("UnsupportedOperationException if there is none for a month", 3162)
                .seen("year(1, 2)", 12L * 99964003)
                .and("differ(1, 0, " + month + ", 1)");
            if (month < 11) {
                run.and("differ(1, 0, " + (month + 1) + ", -1)");
            }
            run.throwing("number(1, 2, " + month + ")", Thrown.UNSUPPORTED)
                .throwing("year(1, 2)", Thrown.UNSUPPORTED)
                .seen("year(0, 2)", 12L * 99964003)
                .seen("year(1, 1)", 11L * 99982 + 100045);
        }
    }

    private static void throwsIfThereIsNoneForAnyMonth() {
        Run run = quick("UnsupportedOperationException if there is none for a month: each", 9999);
        long sum = 0;
        for (int month = 0; month < 12; month++) {
            run.throwing("year(0, 2)", Thrown.UNSUPPORTED).and("actual(2, " + month + ", " + (1 << month) + ")");
            sum += 1L << month;
            if (month < 11) {
                run.and("pass()");
            }
        }
        run.seen("year(0, 2)", sum).seen("year(1, 2)", sum)
            .and("takeActual(2, 7)")
            .throwing("year(0, 2)", Thrown.UNSUPPORTED);
    }

    private static void theFirstExceptionIsThrown() {
        quick("the one that is documented first: no such scenario or line, and none", 9999)
            .throwingEach(Thrown.INDEX, "year(2, 2)", "year(-1, 2)", "year(0, 3)", "year(0, -1)")
            .throwing("year(0, 2)", Thrown.UNSUPPORTED);
    }
}

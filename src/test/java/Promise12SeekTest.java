import java.util.NoSuchElementException;

/** Promise 12: seek. */
public final class Promise12SeekTest {
    private static final Class<IndexOutOfBoundsException> INDEX = IndexOutOfBoundsException.class;
    private static final Class<NoSuchElementException> NO_SUCH = NoSuchElementException.class;

    public static void main(String[] args) {
        findsTheLeastValue();
        findsTheLeastOfSeveralReaches();
        passesOverValuesWithoutANumber();
        looksAtTheBaseWithItsActuals();
        refuses();
        Run.end();
    }

    private static void findsTheLeastValue() {
        Run.with("the least value", "addDriver(200)", "addDriver(30)", "addLine('d', 0, 0)", "addLine('d', 1, 0)",
                "addLine('s', 0, 1)", "addLine('m', 1, 0)", "approve(2, 3, 0)")
            .seen("seek(0, 2, 3, 500)", 470)
            .seen("seek(1, 2, 3, 500)", 300)
            .seen("seek(0, 2, 3, 1029)", 999)
            .throwing("seek(0, 2, 3, 1030)", NO_SUCH)
            .throwing("seek(0, 2, 3, 2147483647)", NO_SUCH)
            .seen("seek(0, 2, 3, 30)", 0)
            .seen("seek(0, 2, 3, 31)", 1)
            .seen("seek(0, 2, 3, -2147483648)", 0)
            .seen("seek(1, 3, 3, -170)", 30)
            .seen("seek(0, 3, 0, -170)", 0)
            .seen("seek(0, 3, 0, 30)", 0)
            .throwing("seek(0, 3, 0, 31)", NO_SUCH)
            .seen("seek(1, 0, 0, 200)", 0)
            .throwing("seek(1, 0, 0, 201)", NO_SUCH)
            .due("setDriver(0, 9999)", 1)
            .seen("seek(0, 0, 0, 999)", 999)
            .throwing("seek(0, 0, 0, 1000)", NO_SUCH)
            .seen("seek(1, 0, 0, 9999)", 0);
    }

    /** Line 4 is x times (1000 - x) / 100, which grows until x is 500 and shrinks from there on. */
    private static void findsTheLeastOfSeveralReaches() {
        Run.with("a goal that is lost again", "addDriver(0)", "addDriver(1000)", "addLine('d', 0, 0)",
                "addLine('d', 1, 0)", "addLine('m', 1, 0)", "addLine('p', 0, 2)", "addLine('m', 1, 3)")
            .seen("seek(0, 3, 0, 2500)", 500)
            .throwing("seek(0, 3, 0, 2501)", NO_SUCH)
            .seen("seek(0, 3, 0, 900)", 100)
            .seen("seek(0, 3, 0, 899)", 100)
            .seen("seek(0, 3, 0, 901)", 101)
            .seen("seek(0, 4, 0, 1000)", 0)
            .due("setDriver(1, 100)", 0)
            .seen("seek(0, 3, 0, 24)", 40)
            .seen("seek(0, 4, 0, 101)", 101)
            .seen("seek(0, 4, 0, 150)", 137);
    }

    /** Line 4 is (1000000 - x) times line 3 / 100, which leaves the range for every x below 100. */
    private static void passesOverValuesWithoutANumber() {
        Run.with("values without a number", "addDriver(5)", "addLine('d', 0, 0)", "addLine('d', 0, 0)",
                "addLine('m', 1, 0)", "addLine('d', 0, 0)", "addLine('p', 2, 3)", "actual(1, 0, 1000000)",
                "actual(3, 0, 10001)")
            .seen("number(0, 4, 0)", UnsupportedOperationException.class)
            .seen("seek(0, 4, 0, 0)", 100)
            .seen("seek(0, 4, 0, 99999999)", 100)
            .seen("seek(0, 4, 0, -2147483648)", 100)
            .seen("seek(0, 4, 0, -1000000000)", 100)
            .throwing("seek(0, 4, 0, 100000000)", NO_SUCH)
            .due("actual(3, 0, -10001)", 0)
            .seen("seek(0, 4, 0, -2147483648)", 100)
            .seen("seek(0, 4, 0, -99999999)", 100)
            .seen("seek(0, 4, 0, -99999998)", 101)
            .throwing("seek(0, 4, 0, 0)", NO_SUCH)
            .due("actual(3, 0, 20000)", 0)
            .throwing("seek(0, 4, 0, -2147483648)", NO_SUCH)
            .due("actual(4, 0, -3)", 0)
            .seen("seek(0, 4, 0, -3)", 0)
            .throwing("seek(0, 4, 0, -2)", NO_SUCH);
    }

    private static void looksAtTheBaseWithItsActuals() {
        Run.with("the base alone", "addDriver(10)", "addDriver(5)", "addLine('d', 0, 0)", "addLine('d', 1, 0)",
                "addLine('s', 0, 1)", "addScenario(0)", "differ(1, 0, 0, 100)", "differ(1, 1, 0, 100)")
            .seen("seek(0, 2, 0, 100)", 95)
            .due("actual(1, 0, 50)", 0)
            .seen("seek(0, 2, 0, 100)", 50)
            .seen("seek(0, 2, 1, 100)", 95)
            .due("actual(0, 0, 49)", 0)
            .throwing("seek(0, 2, 0, 100)", NO_SUCH)
            .seen("seek(0, 2, 0, 99)", 0)
            .due("takeActual(1, 0)", 0)
            .seen("seek(1, 2, 0, 100)", 51);
    }

    private static void refuses() {
        Run.with("what seek refuses", "addDriver(10)", "addDriver(11)", "addLine('d', 0, 0)", "addLine('d', 0, 0)",
                "addLine('d', 0, 0)")
            .seen("seek(1, 2, 11, 10)", 0)
            .throwing("seek(2, 0, 0, 0)", INDEX)
            .throwing("seek(-1, 0, 0, 0)", INDEX)
            .throwing("seek(0, 3, 0, 0)", INDEX)
            .throwing("seek(0, -1, 0, 0)", INDEX)
            .throwing("seek(0, 0, 12, 0)", INDEX)
            .throwing("seek(0, 0, -1, 0)", INDEX)
            .throwing("seek(2147483647, 0, 0, 2147483647)", INDEX);
    }
}

/** Promise 1: a new object. */
public final class Promise01NewObjectTest {
    public static void main(String[] args) {
        nothingIsThere();
        theBaseAloneIsThere();
        objectsShareNothing();
        Run.end();
    }

    private static void nothingIsThere() {
        new Run("a new object")
            .due("month()", 0)
            .due("open()", 0)
            .due("approvedShare()", ArithmeticException.class)
            .due("meanTolerance()", ArithmeticException.class)
            .due("driver(0, 0, 0)", IndexOutOfBoundsException.class)
            .due("number(0, 0, 0)", IndexOutOfBoundsException.class)
            .due("state(0, 0)", IndexOutOfBoundsException.class)
            .due("addLine('s', 0, 0)", IndexOutOfBoundsException.class)
            .due("addLine('d', 0, 0)", IndexOutOfBoundsException.class)
            .due("addDriver(3)", 0)
            .due("addLine('d', 0, 0)", 0)
            .due("state(0, 0)", '-')
            .due("takeActual(0, 0)", java.util.NoSuchElementException.class);
    }

    private static void theBaseAloneIsThere() {
        Run.with("the base alone", "addDriver(7)")
            .due("driver(0, 0, 0)", 7)
            .due("driver(1, 0, 0)", IndexOutOfBoundsException.class)
            .due("addScenario(1)", IndexOutOfBoundsException.class)
            .due("addScenario(0)", 1);
    }

    private static void objectsShareNothing() {
        Run first = Run.with("the first of two objects", "addDriver(1)", "pass()");
        Run second = Run.with("the second of two objects", "addDriver(2)");
        first.due("driver(0, 0, 0)", 1).due("month()", 1);
        second.due("driver(0, 0, 0)", 2).due("month()", 0);
    }
}

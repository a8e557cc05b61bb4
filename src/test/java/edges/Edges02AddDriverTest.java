/** The edges that the document names in promise 2, addDriver. */
public final class Edges02AddDriverTest {
    public static void main(String[] args) {
        theValue0();
        theValue9999();
        throwsIfTheValueIsOutOfRange();
        throwsIfThereAre6Drivers();
        theFirstExceptionIsThrown();
        Run.end();
    }

    private static void theValue0() {
        new Run("its value, 0 to 9999: 0")
            .throwing("addDriver(-1)", Thrown.ARGUMENT)
            .due("addDriver(0)", 0)
            .seen("driver(0, 0, 0)", 0);
    }

    private static void theValue9999() {
        new Run("its value, 0 to 9999: 9999")
            .throwing("addDriver(10000)", Thrown.ARGUMENT)
            .due("addDriver(9999)", 0)
            .seen("driver(0, 0, 11)", 9999);
    }

    private static void throwsIfTheValueIsOutOfRange() {
        Run.with("IllegalArgumentException if the value is out of range", "addDriver(5)")
            .throwingEach(Thrown.ARGUMENT, "addDriver(-1)", "addDriver(10000)", "addDriver(-2147483648)",
                "addDriver(2147483647)")
            .due("addDriver(6)", 1);
    }

    private static void throwsIfThereAre6Drivers() {
        Run.with("IllegalStateException if there are 6 drivers", "addDriver(1)", "addDriver(2)", "addDriver(3)",
                "addDriver(4)", "addDriver(5)")
            .due("addDriver(6)", 5)
            .throwingEach(Thrown.STATE, "addDriver(7)", "addDriver(0)", "addDriver(9999)")
            .seen("driver(0, 0, 0)", 1)
            .seen("driver(0, 5, 0)", 6);
    }

    private static void theFirstExceptionIsThrown() {
        Run.with("the one that is documented first: out of range, and 6 drivers", "addDriver(1)", "addDriver(2)",
                "addDriver(3)", "addDriver(4)", "addDriver(5)", "addDriver(6)")
            .throwingEach(Thrown.ARGUMENT, "addDriver(-1)", "addDriver(10000)")
            .throwing("addDriver(1)", Thrown.STATE);
    }
}

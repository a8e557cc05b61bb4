/** The edges that the document names in "Terms: Drivers". */
public final class EdgesTermsDriversTest {
    public static void main(String[] args) {
        atMost6DriversAreNumberedFrom0();
        eachHasAValueFrom0To9999();
        eachKeepsItsOwnValue();
        Run.end();
    }

    private static void atMost6DriversAreNumberedFrom0() {
        Run run = new Run("At most 6 drivers are numbered from 0");
        for (int driver = 0; driver < 6; driver++) {
            run.throwing("driver(0, " + driver + ", 0)", Thrown.INDEX)
                .due("addDriver(" + (driver + 10) + ")", driver)
                .seen("driver(0, " + driver + ", 0)", driver + 10);
        }
        run.throwing("addDriver(16)", Thrown.STATE)
            .throwing("driver(0, 6, 0)", Thrown.INDEX)
            .throwing("driver(0, -1, 0)", Thrown.INDEX);
    }

    private static void eachHasAValueFrom0To9999() {
        String name = "each has a value from 0 to 9999";
        Run.with(name).throwing("addDriver(-1)", Thrown.ARGUMENT).due("addDriver(0)", 0).seen("driver(0, 0, 0)", 0);
        Run.with(name).throwing("addDriver(10000)", Thrown.ARGUMENT).due("addDriver(9999)", 0)
            .seen("driver(0, 0, 0)", 9999);
        Run.with(name, "addDriver(5)").throwing("setDriver(0, -1)", Thrown.ARGUMENT).seen("driver(0, 0, 0)", 5)
            .due("setDriver(0, 0)", 0).seen("driver(0, 0, 0)", 0);
        Run.with(name, "addDriver(5)").throwing("setDriver(0, 10000)", Thrown.ARGUMENT).seen("driver(0, 0, 0)", 5)
            .due("setDriver(0, 9999)", 0).seen("driver(0, 0, 0)", 9999);
    }

    private static void eachKeepsItsOwnValue() {
        Run run = new Run("each has a value, the first and the last");
        for (int driver = 0; driver < 6; driver++) {
            run.due("addDriver(0)", driver);
        }
        run.due("setDriver(0, 1)", 0)
            .due("setDriver(5, 9999)", 0)
            .seen("driver(0, 0, 0)", 1)
            .seen("driver(0, 1, 0)", 0)
            .seen("driver(0, 4, 0)", 0)
            .seen("driver(0, 5, 0)", 9999);
    }
}

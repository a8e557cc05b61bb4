/** The edges that the document names in promise 4, driver. */
public final class Edges04DriverTest {
    public static void main(String[] args) {
        alsoBelow0();
        alsoBeyond9999();
        throwsIfThereIsNoSuchScenario();
        throwsIfThereIsNoSuchDriver();
        throwsIfThereIsNoSuchMonth();
        Run.end();
    }

    private static void alsoBelow0() {
        Run run = Run.with("the value, also below 0", "addDriver(1)", "addScenario(0)")
            .and("differ(1, 0, 0, -1)").seen("driver(1, 0, 0)", 0)
            .and("differ(1, 0, 0, -1)").seen("driver(1, 0, 0)", -1)
            .and("setDriver(0, 0)").seen("driver(1, 0, 0)", -2);
        for (int i = 0; i < 10; i++) {
            run.and("differ(1, 0, 11, -999)");
        }
        run.seen("driver(1, 0, 11)", -9992).seen("driver(0, 0, 11)", 0);
    }

    private static void alsoBeyond9999() {
        Run run = Run.with("the value, also beyond 9999", "addDriver(9998)", "addScenario(0)")
            .and("differ(1, 0, 0, 1)").seen("driver(1, 0, 0)", 9999)
            .and("differ(1, 0, 0, 1)").seen("driver(1, 0, 0)", 10000)
            .and("setDriver(0, 9999)").seen("driver(1, 0, 0)", 10001);
        for (int i = 0; i < 10; i++) {
            run.and("differ(1, 0, 11, 999)");
        }
        run.seen("driver(1, 0, 11)", 19991).seen("driver(0, 0, 11)", 9999);
    }

    private static void throwsIfThereIsNoSuchScenario() {
        Run.with("IndexOutOfBoundsException if there is no such scenario", "addDriver(5)", "addScenario(0)")
            .throwingEach(Thrown.INDEX, "driver(2, 0, 0)", "driver(-1, 0, 0)", "driver(3, 0, 0)", "driver(4, 0, 0)",
                "driver(-2147483648, 0, 0)", "driver(2147483647, 0, 0)")
            .seen("driver(0, 0, 0)", 5)
            .seen("driver(1, 0, 0)", 5);
    }

    private static void throwsIfThereIsNoSuchDriver() {
        Run.with("IndexOutOfBoundsException if there is no such driver", "addDriver(5)", "addDriver(6)")
            .throwingEach(Thrown.INDEX, "driver(0, 2, 0)", "driver(0, -1, 0)", "driver(0, 5, 0)", "driver(0, 6, 0)",
                "driver(0, -2147483648, 0)", "driver(0, 2147483647, 0)")
            .seen("driver(0, 0, 0)", 5)
            .seen("driver(0, 1, 0)", 6);
    }

    private static void throwsIfThereIsNoSuchMonth() {
        Run.with("IndexOutOfBoundsException if there is no such month", "addDriver(5)")
            .throwingEach(Thrown.INDEX, "driver(0, 0, -1)", "driver(0, 0, 12)", "driver(0, 0, -2147483648)",
                "driver(0, 0, 2147483647)")
            .seen("driver(0, 0, 0)", 5)
            .seen("driver(0, 0, 11)", 5);
    }
}

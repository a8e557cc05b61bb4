/** Promise 22: meanTolerance. */
public final class Promise22MeanToleranceTest {
    public static void main(String[] args) {
        Run.with("the mean tolerance", "addDriver(10)", "addLine('d', 0, 0)", "addLine('s', 0, 0)")
            .throwing("meanTolerance()", ArithmeticException.class)
            .due("approve(0, 0, 0)", 10)
            .seen("meanTolerance()", 0.0)
            .due("approve(1, 0, 9999)", 20)
            .seen("meanTolerance()", 4999.5)
            .due("approve(1, 11, 1)", 20)
            .seen("meanTolerance()", 10000.0 / 3.0)
            .due("setDriver(0, 11)", 2)
            .seen("meanTolerance()", 10000.0 / 3.0)
            .due("approve(1, 0, 4)", 22)
            .seen("meanTolerance()", 5.0 / 3.0)
            .due("setDriver(0, 9999)", 1)
            .seen("meanTolerance()", 5.0 / 3.0)
            .due("approve(0, 0, 2)", 9999)
            .seen("meanTolerance()", 7.0 / 3.0);
        Run.end();
    }
}

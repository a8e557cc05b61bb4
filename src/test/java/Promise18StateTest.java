/** Promise 18: state. */
public final class Promise18StateTest {
    public static void main(String[] args) {
        Run.with("states", "addDriver(10)", "addLine('d', 0, 0)", "addLine('s', 0, 0)")
            .seen("state(0, 0)", '-')
            .seen("state(1, 11)", '-')
            .due("approve(1, 11, 4)", 20)
            .seen("state(1, 11)", 'a')
            .seen("state(0, 11)", '-')
            .seen("state(1, 10)", '-')
            .due("setDriver(0, 12)", 0)
            .seen("state(1, 11)", 'a')
            .due("setDriver(0, 13)", 1)
            .seen("state(1, 11)", 'o')
            .due("setDriver(0, 10)", 0)
            .seen("state(1, 11)", 'o')
            .due("approve(1, 11, 0)", 20)
            .seen("state(1, 11)", 'a')
            .due("addLine('d', 0, 0)", 2)
            .seen("state(2, 0)", '-')
            .throwing("state(3, 0)", IndexOutOfBoundsException.class)
            .throwing("state(-1, 0)", IndexOutOfBoundsException.class)
            .throwing("state(0, 12)", IndexOutOfBoundsException.class)
            .throwing("state(0, -1)", IndexOutOfBoundsException.class)
            .throwing("state(1, -2147483648)", IndexOutOfBoundsException.class);
        Run.end();
    }
}

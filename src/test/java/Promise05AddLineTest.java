/** Promise 5: addLine. */
public final class Promise05AddLineTest {
    public static void main(String[] args) {
        addsEachKind();
        refuses();
        isFullWithTen();
        Run.end();
    }

    private static void addsEachKind() {
        Run.with("each kind", "addDriver(30)", "addDriver(4)", "addDriver(7)")
            .due("addLine('d', 2, 99)", 0)
            .due("addLine('d', 0, -2147483648)", 1)
            .due("addLine('s', 0, 1)", 2)
            .due("addLine('m', 0, 1)", 3)
            .due("addLine('p', 2, 3)", 4)
            .due("addLine('s', 1, 1)", 5)
            .due("addLine('p', 5, 5)", 6)
            .due("number(0, 0, 0)", 7)
            .due("number(0, 1, 0)", 30)
            .due("number(0, 2, 0)", 37)
            .due("number(0, 3, 0)", -23)
            .due("number(0, 4, 0)", -8)
            .due("number(0, 5, 0)", 60)
            .due("number(0, 6, 0)", 36)
            .due("state(6, 0)", '-');
    }

    private static void refuses() {
        Run.with("what addLine refuses", "addDriver(1)", "addDriver(2)", "addLine('d', 1, 0)")
            .throwing("addLine('x', 0, 0)", IllegalArgumentException.class)
            .throwing("addLine('D', 0, 0)", IllegalArgumentException.class)
            .throwing("addLine('e', 0, 0)", IllegalArgumentException.class)
            .throwing("addLine('x', 7, 7)", IllegalArgumentException.class)
            .throwing("addLine('d', 2, 0)", IndexOutOfBoundsException.class)
            .throwing("addLine('d', -1, 0)", IndexOutOfBoundsException.class)
            .throwing("addLine('s', 1, 0)", IndexOutOfBoundsException.class)
            .throwing("addLine('s', 0, 1)", IndexOutOfBoundsException.class)
            .throwing("addLine('m', -1, 0)", IndexOutOfBoundsException.class)
            .throwing("addLine('m', 0, -1)", IndexOutOfBoundsException.class)
            .throwing("addLine('p', 0, 2147483647)", IndexOutOfBoundsException.class)
            .throwing("addLine('p', 2147483647, 0)", IndexOutOfBoundsException.class)
            .due("addLine('s', 0, 0)", 1)
            .due("addLine('s', 1, 0)", 2);
    }

    private static void isFullWithTen() {
        Run run = Run.with("ten lines", "addDriver(1)");
        for (int line = 0; line < 10; line++) {
            run.due("addLine('d', 0, 0)", line);
        }
        run.throwing("addLine('d', 0, 0)", IllegalStateException.class)
            .throwing("addLine('s', 9, 9)", IllegalStateException.class)
            .throwing("addLine('s', 10, 0)", IndexOutOfBoundsException.class)
            .throwing("addLine('d', 1, 0)", IndexOutOfBoundsException.class)
            .throwing("addLine('q', 0, 0)", IllegalArgumentException.class)
            .due("number(0, 9, 0)", 1)
            .due("number(0, 10, 0)", IndexOutOfBoundsException.class);
    }
}

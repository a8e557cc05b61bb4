/** Promise 2: addDriver. */
public final class Promise02AddDriverTest {
    public static void main(String[] args) {
        new Run("drivers are numbered from 0, up to 6")
            .throwing("addDriver(-1)", IllegalArgumentException.class)
            .throwing("addDriver(10000)", IllegalArgumentException.class)
            .throwing("addDriver(-2147483648)", IllegalArgumentException.class)
            .throwing("addDriver(2147483647)", IllegalArgumentException.class)
            .due("addDriver(0)", 0)
            .due("addDriver(9999)", 1)
            .due("addDriver(12)", 2)
            .due("addDriver(12)", 3)
            .due("addDriver(13)", 4)
            .due("driver(0, 5, 0)", IndexOutOfBoundsException.class)
            .due("addDriver(14)", 5)
            .throwing("addDriver(15)", IllegalStateException.class)
            .throwing("addDriver(10000)", IllegalArgumentException.class)
            .throwing("addDriver(-1)", IllegalArgumentException.class)
            .due("driver(0, 0, 0)", 0)
            .due("driver(0, 1, 11)", 9999)
            .due("driver(0, 2, 3)", 12)
            .due("driver(0, 4, 3)", 13)
            .due("driver(0, 5, 3)", 14)
            .due("driver(0, 6, 3)", IndexOutOfBoundsException.class);
        Run.end();
    }
}

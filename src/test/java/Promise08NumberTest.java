/** Promise 8: number, and what every way of finding a number has to keep. */
public final class Promise08NumberTest {
    public static void main(String[] args) {
        Numbers.testAll("number");
        Run.end();
    }
}

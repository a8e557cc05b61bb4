/** Promise 9: numberByHand, which has to answer as number does. */
public final class Promise09NumberByHandTest {
    public static void main(String[] args) {
        Numbers.testAll("numberByHand");
        Run.end();
    }
}

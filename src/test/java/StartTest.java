/** The smallest test: a new object is empty. */
public final class StartTest {
    public static void main(String[] args) {
        if (new SightReducer().told(2) != 0) {
            System.exit(1);
        }
    }
}

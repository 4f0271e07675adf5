/** Placeholder until the tests of the promises stand. */
public final class SmokeTest {
    public static void main(String[] args) {
        if (HandLine.NONE != -1) {
            System.exit(1);
        }
    }
}

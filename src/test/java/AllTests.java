/** Runs the project's tests; ends with 1 if an answer was not the one that is due. */
public final class AllTests {
    private AllTests() {
    }

    public static void main(String[] args) {
        TableTest.run();
        System.out.println(Check.right() + " answers as due, " + Check.wrong() + " not");
        if (Check.wrong() != 0) {
            System.exit(1);
        }
    }
}

/** Runs the project's tests; ends with 1 if an answer was not the one that is due. */
public final class AllTests {
    private AllTests() {
    }

    public static void main(String[] args) throws Exception {
        TableTest.run();
        DaysTest.run();
        CounselTest.run();
        ToldTest.run();
        TextTest.run();
        SheetTest.run();
        ImageTest.run();
        FindingsTest.run();
        ModelTest.run();
        Edges.run();
        SourceTest.run();
        ReadmeTest.run();
        System.out.println(Check.right() + " answers as due, " + Check.wrong() + " not");
        if (Check.wrong() != 0) {
            System.exit(1);
        }
    }
}

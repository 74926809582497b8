/** All tests of edges; each part of the document has to have some. */
final class Edges {
    private Edges() {
    }

    static void run() {
        EdgesOfTerms.run();
        EdgesOfADay.run();
        EdgesOfTheTable.run();
        EdgesOfDays.run();
        EdgesOfCounsel.run();
        EdgesOfWhatIsTold.run();
        EdgesOfTexts.run();
        EdgesOfSheets.run();
        EdgesOfImages.run();
        Check.due("the terms and the promises that have tests of edges", Doc.toldParts(), Doc.parts());
    }
}

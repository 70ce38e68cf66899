import java.io.IOException;

/** Each sentence of the document that names a boundary case, with a test of its own that names the promise. */
public final class EdgesTest {
    public static void main(String[] args) throws IOException {
        Edges.readDocument();
        EdgesOfFindings.run();
        EdgesOfPointOne.run();
        EdgesOfPointTwo.run();
        EdgesOfPointThree.run();
        EdgesOfPlaces.run();
        EdgesOfTerms.run();
        EdgesOfWays.run();
        EdgesOfSureties.run();
        EdgesOfTexts.run();
        EdgesOfSheets.run();
        EdgesOfImages.run();
        Edges.end();
        Due.end("EdgesTest");
    }
}

import java.io.IOException;

/** Every sentence of the document that names an edge, on both its sides; the parts are by the document's own sections. */
public final class EdgeTests {
    private EdgeTests() {
    }

    public static void main(String[] args) throws IOException {
        EdgesOfText.look();
        EdgesOfNow.look();
        EdgesOfCompanies.look();
        EdgesOfIntroductions.look();
        EdgesOfFelt.look();
        EdgesOfEach.look();
        EdgesOfVisitors.look();
        EdgesOfActs.look();
        EdgesOfTold.look();
        Sentences.look();
        Check.end();
    }
}

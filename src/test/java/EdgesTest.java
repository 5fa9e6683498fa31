import java.io.IOException;

/** Every sentence of what the document is about, of its terms and of its promises, at the edges that it names. */
public final class EdgesTest {
    public static void main(String[] args) throws IOException {
        Edge edge = new Edge();
        EdgesOfObjects.all(edge);
        EdgesOfExceptions.all(edge);
        EdgesOfObservations.all(edge);
        EdgesOfSetUps.all(edge);
        EdgesOfBlunders.all(edge);
        EdgesOfPlaces.all(edge);
        EdgesOfLevels.all(edge);
        EdgesOfTexts.all(edge);
        edge.end();
    }
}

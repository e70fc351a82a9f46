import java.io.IOException;

/** Each sentence of the document that names a boundary, by a test of its own; to be run from the project's folder. */
public final class EdgesTest {
    public static void main(String[] args) throws IOException {
        Edges e = new Edges();
        EdgesOfTerms1.all(e);
        EdgesOfTerms2.all(e);
        EdgesOfTerms3.all(e);
        EdgesOfTerms4.all(e);
        EdgesOfPromises1To16.all(e);
        EdgesOfPromises17To32.all(e);
        e.close();
    }
}

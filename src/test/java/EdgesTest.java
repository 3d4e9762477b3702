import java.io.IOException;

/** Each sentence of the document's Terms and promises, with the edges that it names. */
final class EdgesTest {
    public static void main(String[] args) throws IOException {
        BodyEdges.all();
        SpinEdges.all();
        TurnEdges.all();
        TopEdges.all();
        RollingEdges.all();
        CageEdges.all();
        CatEdges.all();
        CraftEdges.all();
        PhotographEdges.all();
        FigureEdges.all();
        Sentence.allAreTested();
        Check.end();
    }
}

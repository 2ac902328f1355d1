import java.io.IOException;
import java.util.List;

/** One test for each sentence of the document that names a boundary case, and for the sentences around them. */
public final class EdgesTest {
    /** Sentences ahead of promise 1 that name nothing to be tried, or only what the promises repeat. */
    private static final List<String> UNTRIED = List.of("Amounts are whole cents.", "Interest.", "Payments.",
        "The level installment.", "Scripts.", "Undo.", "Ahead of the calls");

    public static void main(String[] args) throws IOException {
        Edges edges = new Edges();
        new EdgesOfParameters(edges).run();
        new EdgesOfTerms(edges).run();
        new EdgesOfScripts(edges).run();
        new EdgesOfInput(edges).run();
        new EdgesOfUndo(edges).run();
        new EdgesOfChanges(edges).run();
        new EdgesOfLoans(edges).run();
        new EdgesOfPredictions(edges).run();
        new EdgesOfReport(edges).run();
        edges.endWithAllSentences(UNTRIED);
    }
}

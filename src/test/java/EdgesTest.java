import java.io.IOException;
import java.nio.file.Path;

/** Each sentence of the document has a test of its own, which quotes it; what it names as a boundary is tried there. */
public final class EdgesTest {
    private EdgesTest() {
    }

    public static void main(String[] args) throws IOException {
        Check.endWithin(600);
        EdgesOfTerms.run();
        EdgesOfPlanning.run();
        EdgesOfText.run();
        EdgesOfUndo.run();
        EdgesOfCalls.run();
        EdgesOfValues.run();
        EdgesOfText.runPromises();
        Sentences.compareWith(Path.of("../shared/DOC.md"));
        Check.end();
    }
}

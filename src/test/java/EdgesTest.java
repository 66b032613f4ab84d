import java.io.IOException;

/** Each boundary case that a sentence of the document names: a test of its own, that names the promise and the sentence. */
public final class EdgesTest {
    public static void main(String[] args) throws IOException {
        Due due = new Due();
        new EdgesOfChecks(due).run();
        new EdgesOfDrives(due).run();
        new EdgesOfFacts(due).run();
        new EdgesOfCauses(due).run();
        new EdgesOfCounts(due).run();
        due.finish();
        new Sentences(due.edges).run();
    }
}

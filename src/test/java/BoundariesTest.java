import java.io.IOException;

/**
 * Each sentence of the document that names a boundary: a test of its own, named after the section
 * and the words. That no sentence is left out is asked in the end.
 */
public final class BoundariesTest {
    public static void main(String[] args) throws IOException {
        Due due = new Due();
        Sentences sentences = Sentences.read();
        new TownBoundaries(due, sentences).all();
        new TurnBoundaries(due, sentences).all();
        new TextBoundaries(due, sentences).all();
        new HistoryBoundaries(due, sentences).all();
        new ErrorBoundaries(due, sentences).all();
        new ActionBoundaries(due, sentences).all();
        new QueryBoundaries(due, sentences).all();
        new ForesightBoundaries(due, sentences).all();
        due.begin("the document");
        for (String stranger : sentences.strangers()) {
            due.isTrue("that it says \"" + stranger + "\"", false);
        }
        for (String sentence : sentences.untested()) {
            due.isTrue("that a test is named after \"" + sentence + "\"", false);
        }
        due.end();
    }
}

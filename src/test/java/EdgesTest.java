import java.io.IOException;

/**
 * Each sentence of the document that names an edge: what is the least and the greatest, the
 * empty and the full, what goes round, what is refused. Each has a test of its own, which
 * begins with the section and the sentence that it is for. The sentences that name no edge
 * are quoted likewise, so that none is left out.
 */
public final class EdgesTest {
    public static void main(String[] args) throws IOException {
        Check check = new Check();
        new EdgesOfLevels(check).run();
        new EdgesOfPanels(check).run();
        new EdgesOfText(check).run();
        new EdgesOfQuestions(check).run();
        new EdgesOfActions(check).run();
        new EdgesOfUndo(check).run();
        new EdgesOfRides(check).run();
        new EdgesOfScripts(check).run();
        new EdgesOfSlots(check).run();
        new PlainSentences(check).run();
        if (Document.isThere()) {
            check.ofNone();
            new Document().compare(check);
        } else {
            System.out.println("../shared/DOC.md is not there: the quotes are not compared with it");
        }
        System.out.println(check.quotes().size() + " sentences");
        check.end();
    }
}

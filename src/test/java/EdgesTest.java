import java.io.IOException;
import java.nio.file.Files;
import java.nio.file.Path;

/**
 * Each sentence of the document that names a boundary case, by a test of its own that says which one it holds;
 * and that no words of 'What it is', of 'Terms' and of the promises are without one.
 */
public final class EdgesTest {
    private static final int PROMISES = 25;

    public static void main(String[] args) throws IOException {
        Due due = new Due("EdgesTest");
        WhatItIsEdges.all(due);
        NewObjectEdges.all(due);
        SetsAndHeadsEdges.all(due);
        TryAndSeekEdges.all(due);
        ClientsAndGiversEdges.all(due);
        TreeAndProofEdges.all(due);
        SamplesEdges.all(due);
        RefusalEdges.all(due);
        Due words = new Due("EdgesTest, the document's words");
        Path file = Path.of(System.getProperty("document", "../shared/DOC.md"));
        if (Files.exists(file)) {
            quotesAreTheDocuments(words, due, new Document(file));
        } else {
            System.out.println("EdgesTest: no document at " + file + ", so the quotes are not looked up");
        }
        words.end();
        due.end();
    }

    private static void quotesAreTheDocuments(Due words, Due due, Document document) {
        for (Due.Held held : due.held) {
            words.holds(held + " stands in the document", document.claim(held.section, held.words));
            words.holds(held + " is asked for", held.asked > 0);
        }
        covered(words, document, "What it is");
        covered(words, document, "Terms");
        for (int promise = 1; promise <= PROMISES; promise++) {
            covered(words, document, "Promise " + promise);
        }
    }

    private static void covered(Due words, Document document, String section) {
        String left = document.unclaimed(section);
        words.holds(section + ", words without a test: " + left, left.isEmpty());
    }
}

import java.io.IOException;
import java.nio.file.Path;

/**
 * All promises: every sentence of the document that names a boundary case has a test of its own, which names the
 * promise and the sentence. A sentence that the document does not have, and one that no test names, are errors as well.
 */
public final class EdgesTest {
    private static final Checks c = new Checks("EdgesTest");

    public static void main(String[] args) throws IOException {
        Document document = new Document(c, Path.of("../shared/DOC.md"));
        new EdgesOfTerms(c, document).all();
        new EdgesOfStores(c, document).all();
        new EdgesOfGoods(c, document).all();
        new EdgesOfAccounts(c, document).all();
        new EdgesOfTexts(c, document).all();
        document.name("What it is", "An object is used for at most 512 calls after it has been made;");
        the512thCallIsAnsweredToo();
        document.allIsNamed();
        c.end();
    }

    private static void the512thCallIsAnsweredToo() {
        SealedStores x = new SealedStores();
        for (int fine = 1; fine <= 508; fine++) {
            c.due(x.set(0, fine), fine == 1 ? 5000 : fine - 1);
        }
        c.due(x.undo(), 3);
        c.due(x.type('d'), 1);
        c.due(x.count(20), 507);
        c.due(x.locker(), 0);
    }
}

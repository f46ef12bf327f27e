import java.io.IOException;
import java.nio.file.Files;
import java.nio.file.Path;

/** Each sentence of the document that names a boundary has tests of its own; the project's root is the argument. */
public final class EdgeTests {
    private EdgeTests() {
    }

    public static void main(String[] args) throws IOException {
        if (args.length != 1) {
            System.out.println("the root of the project is needed");
            System.exit(1);
        }
        Path document = Path.of(args[0], "..", "shared", "DOC.md");
        boolean compared = Files.isReadable(document);
        if (compared) {
            Sentences.read(document);
        } else {
            System.out.println("there is no " + document + ": the tests' sentences are not compared with it");
        }
        TermEdges.run();
        MinuteEdges.run();
        TableEdges.run();
        GroupEdges.run();
        ShelfEdges.run();
        OfferEdges.run();
        LoanEdges.run();
        RuleEdges.run();
        RulingEdges.run();
        if (compared) {
            Check.part("all edges");
            Sentences.checkAllNamed();
        }
        Check.end();
    }
}

import java.io.IOException;
import java.nio.file.Files;
import java.nio.file.Path;
import java.util.ArrayList;
import java.util.List;

/** The document's sentences, and those that the tests of the edges have named. */
final class Sentences {
    private static final String[] WITHOUT_EDGES = {
        "Meeplehouse, a games café: tables that are merged for groups and part again, a shelf of copies with pieces"
            + " that go missing, games offered by players, minutes and what is complete or can be made so by lending,"
            + " loans that are closed when a copy comes back, and a referee with small rule books whose rules have"
            + " exceptions."};

    private static final int PROMISES = 27;

    /** In the place 0 all ahead of the promises, in the others the promise of that number. */
    private static final List<String> whole = new ArrayList<>();
    private static final List<String> unnamed = new ArrayList<>();

    private Sentences() {
    }

    static void read(Path document) throws IOException {
        for (int part = 0; part <= PROMISES; part++) {
            whole.add("");
        }
        int part = 0;
        boolean code = false;
        for (String line : Files.readAllLines(document)) {
            if (line.startsWith("```")) {
                code = !code;
            } else if (line.startsWith("## ")) {
                part = partUnder(line, part);
            } else if (!code && part <= PROMISES && !line.startsWith("#") && !line.startsWith("Ahead of the calls")) {
                whole.set(part, whole.get(part) + line.replaceFirst("^`(int |Meeplehouse\\()[^`]*`: ", "") + "\n");
            }
        }
        unnamed.addAll(whole);
        for (String text : WITHOUT_EDGES) {
            unnamed.set(0, unnamed.get(0).replace(text, ""));
        }
    }

    private static int partUnder(String heading, int part) {
        if (heading.startsWith("## Promise ")) {
            return Integer.parseInt(heading.substring("## Promise ".length(), heading.indexOf(':')));
        }
        return heading.equals("## Not promised") ? PROMISES + 1 : part;
    }

    /** The sentence must stand in the promise or in what is ahead of all promises. */
    static void name(int promise, String sentence) {
        if (whole.isEmpty()) {
            return;
        }
        boolean stands = false;
        for (int part : new int[] {0, promise}) {
            if (whole.get(part).contains(sentence)) {
                stands = true;
                unnamed.set(part, unnamed.get(part).replace(sentence, "\n"));
            }
        }
        Check.due("the document's sentence stands there", 1, stands ? 1 : 0);
    }

    /** Each sentence of the document must have been named by a test. */
    static void checkAllNamed() {
        for (int part = 0; part <= PROMISES; part++) {
            for (String line : unnamed.get(part).split("\n")) {
                String rest = line.replaceAll("[^a-zA-Z0-9]", "");
                Check.same("promise " + part + " (0: ahead of all), the words that no test names", "",
                    rest.isEmpty() ? "" : line);
            }
        }
    }
}

/** A test of its own for a case that a sentence of the document names or bounds. */
final class Edge {
    private Edge() {
    }

    /** Names the promise, the sentence of the document and the case of it that the body tries. */
    static void of(int promise, String sentence, String edge, Check.Body body) {
        Check.part("promise " + promise + ", \"" + sentence + "\", " + edge);
        Sentences.name(promise, sentence);
        Check.part("promise " + promise + ", \"" + sentence + "\", " + edge, body);
    }
}

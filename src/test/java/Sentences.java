/** Runs tests that each name a promise and quote the words of the document that they test. */
final class Sentences {
    private final Document document = new Document();

    /** A test of words that stand under a promise. */
    void promise(int number, String words, Runnable test) {
        run("Promise " + number, "promise " + number, words, test);
    }

    /** A test of words that stand under "Terms", and of the promises that use them. */
    void term(String promises, String words, Runnable test) {
        run("Terms", "terms, promises " + promises, words, test);
    }

    /** A test of words that stand under another heading. */
    void words(String heading, String promises, String words, Runnable test) {
        run(heading, heading + ", promises " + promises, words, test);
    }

    private void run(String heading, String name, String words, Runnable test) {
        Check.about(name + ", \"" + words + "\"");
        if (document.isThere()) {
            Check.holds("these are words of the document, under " + heading, document.quote(heading, words));
        }
        int before = Check.askedSoFar();
        test.run();
        Check.holds("the test asks for an answer", Check.askedSoFar() > before);
        Check.about("");
    }

    /** That no word of these promises was left without a test. */
    void coverPromises(int first, int last) {
        for (int number = first; number <= last; number++) {
            cover("Promise " + number);
        }
    }

    void cover(String heading) {
        String left = document.unquoted(heading);
        Check.holds(heading + " has no words without a test: " + left, left.isEmpty());
    }
}

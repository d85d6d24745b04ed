import java.util.Set;
import java.util.TreeSet;

/**
 * The document, opened at one sentence after the other: an answer that is not the one due is told with the
 * promise and the sentence that it breaks. A sentence must stand, word for word, under its own heading.
 */
final class Book {
    static final int TERMS = 0, START = -1;
    private static final int PROMISES = 34;

    private final Check check = new Check();
    private final String document;
    private final Set<Integer> opened = new TreeSet<>();
    private String where = "";
    private int looked = 0;

    Book(String document) {
        this.document = document.replace("```text", " ").replace("```", " ");
    }

    void open(int promise, String words) {
        endOfSentence();
        where = heading(promise) + ", '" + words + "': ";
        opened.add(promise);
        if (!document.isEmpty()) {
            check.that(where + "is in the document", squeezed(under(promise)).contains(squeezed(words)));
        }
        looked = 0;
    }

    void due(String call, long want, long got) {
        looked++;
        check.due(where + call, want, got);
    }

    void end() {
        endOfSentence();
        for (int promise = START; promise <= PROMISES; promise++) {
            check.that(heading(promise) + " has a sentence that is looked at", opened.contains(promise));
        }
        check.end();
    }

    private void endOfSentence() {
        check.that(where + "has an answer that is looked at", where.isEmpty() || looked > 0);
    }

    private static String heading(int promise) {
        return promise == START ? "What it is" : promise == TERMS ? "Terms" : "Promise " + promise;
    }

    private String under(int promise) {
        int start = document.indexOf("\n## " + heading(promise) + (promise > TERMS ? ":" : "\n"));
        if (start < 0) return "";
        int next = document.indexOf("\n## ", start + 1);
        return document.substring(start, next < 0 ? document.length() : next);
    }

    private static String squeezed(String s) {
        return s.replaceAll("\\s+", " ").strip();
    }
}

import java.io.IOException;
import java.nio.file.Files;
import java.nio.file.Path;
import java.util.ArrayList;
import java.util.List;

/**
 * Holds the class to single sentences of the document: each answer is told with its promise and with
 * the words that ask for it, and the words are looked up in the document, so that none is made up.
 */
final class Edges {
    private static final Path DOCUMENT = Path.of("../shared/DOC.md");

    private final Check check = new Check();
    private final List<String> sections = new ArrayList<>();
    private final List<Integer> named = new ArrayList<>();
    private String heading = "";

    Edges() throws IOException {
        if (!Files.isReadable(DOCUMENT)) {
            System.out.println("no " + DOCUMENT + ": quotes are not looked up");
            return;
        }
        for (String section : Files.readString(DOCUMENT).split("\n## Promise ")) {
            sections.add(section.replaceAll("\\s+", " "));
        }
        check.due("promises of the document", sections.size() - 1, 39);
    }

    /** What is asked from here on holds to words of a promise, or of the terms ahead of all of them. */
    void says(int promise, String words) {
        heading = "promise " + promise + " (" + words + "): ";
        named.add(promise);
        if (promise < sections.size()) {
            boolean there = sections.get(promise).contains(words) || sections.get(0).contains(words);
            check.holds(heading + "the document has these words", there);
        }
    }

    void due(String call, long got, long want) {
        check.due(heading + call, got, want);
    }

    void holds(String what, boolean holds) {
        check.holds(heading + what, holds);
    }

    /** Ends the test: no promise of its span may have been left out. */
    void finish(int first, int last) {
        for (int promise = first; promise <= last; promise++) {
            check.holds("promise " + promise + " is named", named.contains(promise));
        }
        check.finish();
    }
}

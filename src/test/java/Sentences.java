import java.io.IOException;
import java.nio.file.Files;
import java.nio.file.Path;
import java.util.ArrayList;
import java.util.List;

/** The document's sentences: each test names the one that it holds the program to, and none is left out. */
final class Sentences {
    private static final int PROMISES = 24;

    /** The promises by their numbers, and in 0 all that stands ahead of them, without the face's listing. */
    private final List<String> sections = new ArrayList<>();
    private final List<boolean[]> named = new ArrayList<>();

    Sentences(Path document) throws IOException {
        String text = Files.readString(document);
        String head = "An object is used for ";
        text = text.substring(text.indexOf(head), text.indexOf("## Not promised"));
        text = text.replaceAll("(?s)## The public face.*?```java.*?```", "");
        for (String section : text.split("## Promise \\d+: [^\n]*\n")) {
            // FaceTest holds the program to what is declared
            String told = section.strip().replaceAll("^`[^`]*\\)[^`]*`: ", "").replaceAll("\\s+", " ");
            sections.add(told);
            named.add(new boolean[told.length()]);
        }
        Due.is("promises in the document", sections.size() - 1, PROMISES);
    }

    /** Runs a test under its promise and sentence; a sentence that the document does not have is a fault. */
    void hold(int promise, String sentence, Runnable test) {
        Due.under("promise " + promise + ", \"" + sentence + "\": ");
        Due.is("is in the document", name(promise, sentence), true);
        int before = Due.checks();
        try {
            test.run();
        } catch (RuntimeException e) {
            Due.is("runs to its end", e.toString(), "an end");
        }
        Due.is("checks something", Due.checks() > before, true);
        Due.under("");
    }

    /** Headings and the like. */
    void passBy(int promise, String words) {
        Due.is("the document has: " + words, name(promise, words), true);
    }

    /** What no test has named must be signs between sentences alone. */
    void allAreNamed() {
        for (int promise = 0; promise < sections.size(); promise++) {
            StringBuilder rest = new StringBuilder();
            String section = sections.get(promise);
            for (int i = 0; i < section.length(); i++) {
                rest.append(named.get(promise)[i] ? '|' : section.charAt(i));
            }
            String left = rest.toString().replaceAll("\\|+", "|");
            Due.is("promise " + promise + ", named by no test", left.replaceAll("[|\\s.#:-]", ""), "");
        }
    }

    private boolean name(int promise, String sentence) {
        if (promise < 0 || promise >= sections.size()) {
            return false;
        }
        int start = sections.get(promise).indexOf(sentence);
        for (int i = start; start >= 0 && i < start + sentence.length(); i++) {
            named.get(promise)[i] = true;
        }
        return start >= 0;
    }
}

import java.util.LinkedHashSet;
import java.util.Set;
import java.util.regex.Matcher;
import java.util.regex.Pattern;

/**
 * The sentences of the document: each sentence of "Description" (but for the examples and the words
 * that head a paragraph), and each line and sentence of each promise. Each wants a test of its own.
 */
final class Book {
    /** The number under which the sentences stand that belong to no promise. */
    static final int DESCRIPTION = 0;

    private final Set<String> untested = new LinkedHashSet<>();

    Book(String document) {
        addParagraphs(DESCRIPTION, between(document, "## What it is\n", "## The public face"));
        addParagraphs(DESCRIPTION, between(document, "## Description\n", "\nExamples:"));
        Matcher promise = Pattern.compile("(?s)## Promise (\\d+): [^\n]*\n(.*?)(?=\n## )").matcher(document);
        while (promise.find()) {
            addParagraphs(Integer.parseInt(promise.group(1)), promise.group(2));
        }
    }

    /** Runs the test of a sentence, which must stand in the document and have no test before. */
    void says(int promise, String sentence, Runnable test) {
        take(promise, sentence);
        Check.about(promise + " " + sentence);
        try {
            test.run();
        } catch (RuntimeException e) {
            Check.fail("the test itself was stopped by " + e);
        }
        Check.about("");
    }

    /** A sentence that no call can show. */
    void cannotShow(int promise, String sentence) {
        take(promise, sentence);
    }

    void end() {
        for (String key : untested) {
            Check.fail("no test for the sentence: " + key);
        }
    }

    private void take(int promise, String sentence) {
        if (!untested.remove(promise + " " + sentence)) {
            Check.fail("not in the document, or tested twice: " + promise + " " + sentence);
        }
    }

    private static String between(String document, String head, String tail) {
        int start = document.indexOf(head);
        int end = document.indexOf(tail, Math.max(start, 0));
        if (start < 0 || end < 0) {
            Check.fail("the document has no part from " + head.trim() + " to " + tail.trim());
            return "";
        }
        return document.substring(start + head.length(), end);
    }

    private void addParagraphs(int promise, String part) {
        for (String paragraph : part.split("\n\\s*\n")) {
            // A new line begins a sentence only in a list.
            String[] pieces = paragraph.trim().startsWith("- ") ? paragraph.split("\n") : new String[] {paragraph};
            for (String piece : pieces) {
                addSentences(promise, piece.trim().replaceAll("\\s+", " "));
            }
        }
    }

    private void addSentences(int promise, String text) {
        if (text.startsWith("`")) {
            return;
        }
        for (String sentence : text.split("(?<=\\.) ")) {
            boolean heads = sentence.matches("(\\w+ )?\\w+\\.");
            if (!sentence.isEmpty() && !heads) {
                untested.add(promise + " " + sentence);
            }
        }
    }
}

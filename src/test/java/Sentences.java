import java.io.IOException;
import java.nio.file.Files;
import java.nio.file.Path;
import java.util.LinkedHashMap;
import java.util.Map;

/** The document's sentences, each beside the test that fails when the sentence is broken. */
final class Sentences {
    private static final Path DOCUMENT = Path.of("../shared/DOC.md");
    private static final String SIGNATURE = "`[^`]*`: ";

    private final Check check;
    private final Map<String, String> sections = new LinkedHashMap<>();
    // What no test has named so far of a section's text.
    private final Map<String, String> unnamed = new LinkedHashMap<>();
    private final boolean isThere;
    private String heading = "";

    Sentences(Check check) throws IOException {
        this.check = check;
        // The calls can be tested without the document; only the words cannot be compared then.
        isThere = Files.exists(DOCUMENT);
        if (!isThere) {
            System.out.println("  there is no " + DOCUMENT + ": its words are not compared");
            return;
        }
        for (String section : Files.readString(DOCUMENT).split("(?m)^## ")) {
            int end = section.indexOf('\n');
            String text = section.substring(end + 1).replaceFirst(SIGNATURE, "").replaceAll("\\s+", " ");
            sections.put(section.substring(0, end).trim(), text);
        }
        unnamed.putAll(sections);
    }

    /** The sentences that follow stand in this section. */
    void in(String newHeading) {
        heading = newHeading;
        if (isThere) {
            check.due("there is a section " + heading, sections.containsKey(heading), true);
        }
    }

    void test(String sentence, Runnable test) {
        if (isThere) {
            check.due("the section " + heading + " says: " + sentence,
                sections.getOrDefault(heading, "").contains(sentence), true);
            unnamed.computeIfPresent(heading, (key, text) -> text.replace(sentence, ""));
        }
        int wrong = check.wrong();
        // Caught here, so that one broken sentence does not keep the others from being tested.
        try {
            test.run();
        } catch (RuntimeException e) {
            check.fails("a call threw " + e);
        }
        if (check.wrong() > wrong) {
            System.out.println("  BROKEN: " + heading + ": " + sentence);
        }
    }

    /** Whether each word of the terms and of all promises stands in a sentence that has a test. */
    void allAreNamed() {
        for (String section : unnamed.keySet()) {
            if (section.equals("Terms") || section.startsWith("Promise ")) {
                String rest = unnamed.get(section).replaceAll("[^A-Za-z0-9]+", " ").trim();
                check.due(section + " has words without a test: " + rest, rest.isEmpty(), true);
            }
        }
    }
}

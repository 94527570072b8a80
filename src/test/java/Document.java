import java.io.IOException;
import java.nio.charset.StandardCharsets;
import java.nio.file.Files;
import java.nio.file.Path;
import java.util.ArrayList;
import java.util.List;
import java.util.Map;
import java.util.TreeMap;

/** The document, with its sentences that have been tested, so that a test can tell which ones it has left out. */
final class Document {
    private static final Path PLACE = Path.of("../shared/DOC.md");
    private static final String TERMS = "Terms";

    private final Map<String, String> sections = new TreeMap<>();
    private final Map<String, List<String>> tested = new TreeMap<>();

    Document() throws IOException {
        String text = Files.readString(PLACE, StandardCharsets.UTF_8);
        for (String section : text.split("(?m)^## ")) {
            int line = section.indexOf('\n');
            String title = section.substring(0, line).replaceAll(":.*", "").strip();
            sections.put(title, onOneLine(section.substring(line)));
            tested.put(title, new ArrayList<>());
        }
    }

    private static String onOneLine(String text) {
        return text.replace("```text", " ").replace("```", " ").replaceAll("(?m)^==== \\d\\. ", " ").replaceAll("\\s+", " ").strip();
    }

    /** What follows tests these words of a promise: the case of them that is named, if they name several. */
    void promise(int number, String words, String... which) {
        quote("Promise " + number, words, which);
    }

    /** What follows tests these words of the terms. */
    void term(String words, String... which) {
        quote(TERMS, words, which);
    }

    private void quote(String section, String words, String... which) {
        Calls.about(section + " \"" + words + "\"" + (which.length > 0 ? " (" + which[0] + ")" : ""));
        if (!sections.getOrDefault(section, "").contains(words)) {
            Calls.fail("the document doesn't say so");
        } else {
            tested.get(section).add(words);
        }
    }

    /** Fails for each sentence of promises without a test, and for each refusal with fewer tests than it has cases. */
    void duePromises() {
        for (String section : sections.keySet()) {
            if (section.startsWith("Promise ")) {
                Calls.about(section);
                dueSection(section);
            }
        }
    }

    /** Fails for each sentence of the terms of which no words were tested. */
    void dueTerms() {
        Calls.about(TERMS);
        dueSection(TERMS);
    }

    private void dueSection(String section) {
        for (String sentence : sentences(section)) {
            long tests = tested.get(section).stream().filter(sentence::contains).count();
            int cases = isRefusal(sentence) ? sentence.split("[,;] ").length : 1;
            if (tests < cases) {
                Calls.fail("'" + sentence + "' has " + tests + " tests, due are " + cases);
            }
        }
    }

    private List<String> sentences(String section) {
        String text = sections.get(section).replaceAll("^`[^`]*`: ", "");
        List<String> all = new ArrayList<>();
        for (String sentence : text.split("(?<=[^. ]\\.\\)?) ")) {
            all.add(sentence);
        }
        return all;
    }

    private static boolean isRefusal(String sentence) {
        return sentence.startsWith("NONE") || sentence.startsWith("False") || sentence.startsWith("-");
    }
}

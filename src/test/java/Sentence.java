import java.io.IOException;
import java.nio.file.Files;
import java.nio.file.Path;
import java.util.ArrayList;
import java.util.Comparator;
import java.util.LinkedHashMap;
import java.util.List;
import java.util.Map;
import java.util.Set;

/**
 * Tests that stand under a sentence of the document: each quotes the words that it holds. A quote that is not in its
 * section fails, so does one behind which nothing is asked, and so do words of the document that no test quotes.
 */
final class Sentence {
    private static final Path DOCUMENT = Path.of("../shared/DOC.md");
    /** FaceTest holds the face and the signatures; what is not promised can't be tested. */
    private static final Set<String> WITHOUT_QUOTES = Set.of("The public face", "Not promised");
    /** Words that ask nothing of an object. */
    private static final String[] FREE = {"what later calls answer is free", "The constants",
        "The constructor and the methods follow, a promise each: the signature, then what it does"};
    private static final Map<String, List<String>> QUOTES = new LinkedHashMap<>();
    private static String title = "";
    private static int answersBefore = 0;

    private Sentence() {
    }

    /** Runs the calls on a new object, as a test of these words of the promise. */
    static void promise(int number, String words, String calls) {
        promise(number, words);
        Script.run(title, calls);
    }

    /** For tests that are no text of calls; what is asked up to the next quote stands under these words. */
    static void promise(int number, String words) {
        quote("Promise " + number, words);
    }

    static void description(String words, String calls) {
        description(words);
        Script.run(title, calls);
    }

    static void description(String words) {
        quote("Description", words);
    }

    static void whatItIs(String words) {
        quote("What it is", words);
    }

    /** More calls, on a further new object, under the words that were quoted last. */
    static void also(String calls) {
        Script.run(title, calls);
    }

    static void same(String what, long got, long due) {
        Script.same(title + ": " + what, got, due);
    }

    private static void quote(String section, String words) {
        endQuote();
        title = section + ", \"" + words + "\"";
        QUOTES.computeIfAbsent(section, name -> new ArrayList<>()).add(plain(words));
    }

    private static void endQuote() {
        if (!title.isEmpty()) {
            Script.holds(title + ": something is asked", Script.answers() > answersBefore);
        }
        answersBefore = Script.answers();
    }

    /** Holds the quotes against the document, if the document is there. */
    static void end() throws IOException {
        endQuote();
        if (!Files.exists(DOCUMENT)) {
            System.out.println("no " + DOCUMENT + ": the quotes were not looked up");
            return;
        }
        Map<String, String> sections = sections(Files.readString(DOCUMENT));
        for (String section : QUOTES.keySet()) {
            String text = plain(sections.getOrDefault(section, ""));
            for (String words : QUOTES.get(section)) {
                Script.holds(section + " says \"" + words + "\"", text.contains(words));
            }
        }
        int promises = 0;
        for (String section : sections.keySet()) {
            if (!WITHOUT_QUOTES.contains(section)) {
                String rest = unquoted(section, sections.get(section));
                Script.holds(section + ", no test quotes: " + rest, rest.isEmpty());
                promises += section.startsWith("Promise ") ? 1 : 0;
            }
        }
        Script.same("promises seen", promises, 30);
    }

    private static Map<String, String> sections(String document) {
        Map<String, String> sections = new LinkedHashMap<>();
        for (String part : document.split("(?m)^## ")) {
            int line = part.indexOf('\n');
            if (line > 0) {
                sections.put(part.substring(0, line).replaceFirst(":.*", "").trim(), part.substring(line));
            }
        }
        return sections;
    }

    /** What is left of the section without its signature, its headings and what tests quote: joining words are nothing. */
    private static String unquoted(String section, String text) {
        String rest = plain(text.replaceAll("(?m)^`.*\\)`$", "").replaceAll("(?m)^---- .*$", ""));
        List<String> known = new ArrayList<>(QUOTES.getOrDefault(section, List.of()));
        known.addAll(List.of(FREE));
        // The longest first, since a short quote may be a part of a longer one.
        known.sort(Comparator.comparing(String::length).reversed());
        for (String words : known) {
            rest = rest.replace(words, " ");
        }
        rest = rest.replaceAll("(^|\\s)\\d\\.(?=\\s)", " ").replaceAll("\\b(and|or|Returns)\\b", " ");
        return rest.matches("\\W*") ? "" : plain(rest);
    }

    private static String plain(String words) {
        return words.replaceAll("\\s+", " ").trim();
    }
}

import java.io.IOException;
import java.nio.file.Files;
import java.nio.file.Path;
import java.util.ArrayList;
import java.util.LinkedHashMap;
import java.util.List;
import java.util.Map;

/**
 * Tests that stand under a sentence of the document: each quotes the words that it holds. A quote that
 * is not in its section fails, so does one behind which nothing is asked, and so does a range behind an
 * argument or a case behind "Returns" that no test quotes.
 */
final class Sentence {
    private static final Path DOCUMENT = Path.of("../shared/DOC.md");
    private static final Map<String, List<String>> QUOTES = new LinkedHashMap<>();
    private static String title = "";
    private static int answersBefore = 0;

    private Sentence() {
    }

    /** Runs the calls on a new object, as a test of these words of the promise. */
    static void promise(int number, String words, String calls) {
        promise(number, words);
        Script.run(title, calls);
    }

    /** For tests that are no text of calls; what is asked up to the next quote stands under these words. */
    static void promise(int number, String words) {
        quote("Promise " + number, words);
    }

    static void description(String words, String calls) {
        description(words);
        Script.run(title, calls);
    }

    static void description(String words) {
        quote("Description", words);
    }

    static void whatItIs(String words) {
        quote("What it is", words);
    }

    /** More calls, on a further new object, under the words that were quoted last. */
    static void also(String calls) {
        Script.run(title, calls);
    }

    static void same(String what, long got, long due) {
        Script.same(title + ": " + what, got, due);
    }

    private static void quote(String section, String words) {
        endQuote();
        title = section + ", \"" + words + "\"";
        QUOTES.computeIfAbsent(section, name -> new ArrayList<>()).add(plain(words));
    }

    private static void endQuote() {
        if (!title.isEmpty()) {
            Script.holds(title + ": something is asked", Script.answers() > answersBefore);
        }
        answersBefore = Script.answers();
    }

    /** Holds the quotes against the document, if the document is there. */
    static void end() throws IOException {
        endQuote();
        if (!Files.exists(DOCUMENT)) {
            System.out.println("no " + DOCUMENT + ": the quotes were not looked up");
            return;
        }
        Map<String, String> sections = sections(Files.readString(DOCUMENT));
        for (String section : QUOTES.keySet()) {
            String text = plain(sections.getOrDefault(section, ""));
            for (String words : QUOTES.get(section)) {
                Script.holds(section + " says \"" + words + "\"", text.contains(words));
            }
        }
        int clauses = 0;
        for (String section : sections.keySet()) {
            if (section.startsWith("Promise ")) {
                Script.holds(section + " has a test", QUOTES.containsKey(section));
                clauses += clausesAreQuoted(section, sections.get(section));
            }
        }
        Script.holds("clauses seen: " + clauses, clauses > 100);
    }

    private static Map<String, String> sections(String document) {
        Map<String, String> sections = new LinkedHashMap<>();
        for (String part : document.split("(?m)^## ")) {
            int line = part.indexOf('\n');
            if (line > 0) {
                sections.put(part.substring(0, line).replaceFirst(":.*", "").trim(), part.substring(line));
            }
        }
        return sections;
    }

    /** A line of a list of arguments or a line with "Returns" has a clause up to each semicolon. */
    private static int clausesAreQuoted(String section, String text) {
        int clauses = 0;
        for (String line : text.split("\n")) {
            if (line.startsWith("- ") || line.startsWith("Returns ")) {
                for (String clause : line.replaceFirst("^- ", "").split(";")) {
                    clauses++;
                    Script.holds(section + ", no test quotes \"" + clause.trim() + "\"", isQuoted(section, plain(clause)));
                }
            }
        }
        return clauses;
    }

    /** Nothing but a joining word may be left of the clause without what is quoted. */
    private static boolean isQuoted(String section, String clause) {
        String rest = clause;
        for (String words : QUOTES.getOrDefault(section, List.of())) {
            rest = rest.replace(words, "");
        }
        return rest.matches("\\W*(or|Returns)?\\W*");
    }

    private static String plain(String words) {
        return words.replaceAll("\\s+", " ").trim();
    }
}

import java.io.IOException;
import java.nio.file.Files;
import java.nio.file.Path;
import java.util.LinkedHashMap;
import java.util.Map;

/** The sentences of the document, from its first line to its last promise, and which of them a test has named. */
final class Doc {
    private static final String WHAT_IT_IS = "what it is: ";
    private static final String TERMS = "terms: ";
    private static final Map<String, Boolean> NAMED = new LinkedHashMap<>();

    private Doc() {
    }

    static void read() throws IOException {
        String document = Files.readString(Path.of("../shared/DOC.md"));
        int face = document.indexOf("## The public face");
        for (String line : document.substring(document.indexOf("## What it is"), face).split("\n")) {
            split(WHAT_IT_IS, line.startsWith("#") ? "" : line.strip());
        }
        String part = document.substring(document.indexOf("## Terms"), document.indexOf("## Not promised"));
        String section = TERMS;
        for (String line : part.split("\n")) {
            String words = line.strip();
            if (words.startsWith("## Promise ")) {
                section = section(Integer.parseInt(words.replaceAll("\\D+(\\d+):.*", "$1")));
            } else if (!words.startsWith("#") && !words.startsWith("```") && !words.startsWith("Ahead of the calls")) {
                split(section, words.replaceFirst("^`[^`]*`: ", ""));
            }
        }
    }

    /** A sentence ends with one point; two are a gap in a row of numbers. */
    private static void split(String section, String words) {
        for (String sentence : words.split("(?<!\\.)\\.(\\s+|$)")) {
            if (!sentence.isBlank() && !sentence.matches("\\d+")) {
                NAMED.put(section + sentence, false);
            }
        }
    }

    private static String section(int promise) {
        return "promise " + promise + ": ";
    }

    /** What follows tests the sentence ahead of the public face that begins so. */
    static void opening(String beginning) {
        name(WHAT_IT_IS + beginning);
    }

    /** What follows tests the sentence of the Terms that begins so. */
    static void term(String beginning) {
        name(TERMS + beginning);
    }

    /** What follows tests the sentence of a promise that begins so. */
    static void promise(int number, String beginning) {
        name(section(number) + beginning);
    }

    private static void name(String beginning) {
        int found = 0;
        for (Map.Entry<String, Boolean> sentence : NAMED.entrySet()) {
            if (sentence.getKey().startsWith(beginning)) {
                sentence.setValue(true);
                found++;
            }
        }
        Due.is("how many sentences begin so: " + beginning, found > 0 ? 1 : 0, 1);
    }

    static void allAreNamed() {
        for (Map.Entry<String, Boolean> sentence : NAMED.entrySet()) {
            Due.is("a test names \"" + sentence.getKey() + "\"", sentence.getValue() ? 1 : 0, 1);
        }
        Due.is("sentences were found", NAMED.size() > 150 ? 1 : 0, 1);
    }
}

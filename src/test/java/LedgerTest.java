import java.io.IOException;
import java.nio.file.Files;
import java.nio.file.Path;
import java.util.LinkedHashMap;
import java.util.List;
import java.util.Map;
import java.util.regex.Matcher;
import java.util.regex.Pattern;

/**
 * Holds the words that the sentence tests quote against the document: each quotation stands in it, and from its first
 * line to the last promise nothing is left that no test quotes, but for the face, which LanguageTest holds against the
 * class.
 */
final class LedgerTest {
    /** What stands between the promises and promises nothing itself. */
    private static final String[] NO_SENTENCES = {"CONVENTIONS\\.", "(?m)^Codes, drawers$", "(?m)^Ahead of the calls .*$"};
    private static final List<String> TERMS = List.of("What it is", "Terms", "Settings", "Names", "Ears", "Mergers", "Texts");
    /** What the last one says is free, or promised to nobody. */
    private static final List<String> WITHOUT_SENTENCES = List.of("The public face", "Not promised");

    private LedgerTest() { }

    static void run(Path document) throws IOException {
        Check.part("the document's sentences");
        Map<String, String> sections = sections(Files.readString(document));
        Map<String, boolean[]> quoted = new LinkedHashMap<>();
        sections.forEach((heading, text) -> quoted.put(heading, new boolean[text.length()]));
        for (Sentence.Quote quote : Sentence.QUOTED) mark(quote, sections, quoted);
        for (String heading : sections.keySet()) {
            Check.due("what no test quotes of " + heading, left(sections.get(heading), quoted.get(heading)), "");
        }
        Check.due("sections of the document", sections.size(), TERMS.size() + 29);
    }

    /** The sections that promise something, by their headings, each as one line. */
    private static Map<String, String> sections(String document) {
        Map<String, String> sections = new LinkedHashMap<>();
        Matcher matcher = Pattern.compile("(?m)^##+ (.*)\\n([^#]*)").matcher(document);
        while (matcher.find()) {
            String heading = matcher.group(1).trim();
            if (!WITHOUT_SENTENCES.contains(heading)) sections.put(heading, plain(matcher.group(2)));
        }
        return sections;
    }

    /** Without signatures, signs of the page, and line ends. */
    private static String plain(String text) {
        String plain = text.replaceAll("`[^`]*\\([^`]*\\)`: ", "").replace("`", "").replaceAll("(?m)^- ", "");
        for (String words : NO_SENTENCES) plain = plain.replaceAll(words, "");
        return plain.replaceAll("\\s+", " ").trim();
    }

    private static void mark(Sentence.Quote quote, Map<String, String> sections, Map<String, boolean[]> quoted) {
        String text = sections.getOrDefault(quote.section(), "");
        int at = text.indexOf(quote.words());
        Check.due(quote.section() + " says \"" + quote.words() + "\"", at >= 0 ? 1 : 0, 1);
        for (; at >= 0; at = text.indexOf(quote.words(), at + 1)) {
            for (int i = 0; i < quote.words().length(); i++) quoted.get(quote.section())[at + i] = true;
        }
    }

    private static String left(String text, boolean[] quoted) {
        StringBuilder left = new StringBuilder();
        for (int i = 0; i < text.length(); i++) {
            if (!quoted[i]) left.append(text.charAt(i));
        }
        return left.toString().trim();
    }
}

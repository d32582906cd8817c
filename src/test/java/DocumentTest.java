import java.io.IOException;
import java.nio.file.Files;
import java.nio.file.Path;
import java.util.ArrayList;
import java.util.LinkedHashMap;
import java.util.List;
import java.util.Map;
import java.util.Set;

/** Each sentence of the document that can name a boundary is quoted in src/test/edges, above a case of its own. */
public final class DocumentTest {
    private static final Path DOCUMENT = Path.of("../shared/DOC.md");
    private static final Set<String> LABELS = Set.of("Draws.", "Log.", "Opened seeds.", "Disputes.", "Exceptions.");

    public static void main(String[] args) throws IOException {
        Map<String, List<String>> sections = sections();
        List<Edges.Quote> quotes = Edges.read().quotes;
        for (Edges.Quote quote : quotes) {
            Checks.due("cases of \"" + quote.words + "\"", true, () -> quote.cases > 0);
            Checks.due(quote.section + " says \"" + quote.words + "\"", true, () -> says(sections, quote));
        }
        for (Map.Entry<String, List<String>> section : sections.entrySet()) {
            for (String sentence : sentences(section.getKey(), section.getValue())) {
                Checks.due("a case of \"" + sentence + "\" of " + section.getKey(), true,
                        () -> quotes.stream().anyMatch(q -> isOf(q, section.getKey(), sentence)));
            }
        }
        Checks.finish();
    }

    /** The lines of each section, under the first words of its title. */
    private static Map<String, List<String>> sections() throws IOException {
        Map<String, List<String>> sections = new LinkedHashMap<>();
        List<String> lines = new ArrayList<>();
        for (String line : Files.readAllLines(DOCUMENT)) {
            if (line.startsWith("## ")) {
                lines = new ArrayList<>();
                sections.put(line.substring(3).replaceFirst(": .*", ""), lines);
            } else if (!line.isBlank()) {
                lines.add(line);
            }
        }
        return sections;
    }

    private static boolean says(Map<String, List<String>> sections, Edges.Quote quote) {
        List<String> lines = sections.getOrDefault(quote.section, List.of());
        return lines.stream().anyMatch(line -> line.contains(quote.words));
    }

    private static boolean isOf(Edges.Quote quote, String section, String sentence) {
        return quote.section.equals(section) && quote.words.equals(sentence);
    }

    private static List<String> sentences(String section, List<String> lines) {
        List<String> sentences = new ArrayList<>();
        for (String line : lines) {
            if (section.equals("Terms")) {
                sentences.addAll(List.of(line.split("(?<=\\.) (?=[A-Z])")));
            } else if (section.startsWith("Promise ") || line.startsWith("An object ")) {
                sentences.add(line);
            }
        }
        sentences.removeIf(DocumentTest::namesNoBoundary);
        return sentences;
    }

    /** Labels, what only says where a call stands, the faces of the calls, and arguments without a range. */
    private static boolean namesNoBoundary(String sentence) {
        return LABELS.contains(sentence) || sentence.startsWith("The calls ") || sentence.startsWith("Ahead of ")
                || sentence.startsWith("`") || sentence.matches("- `\\w+`: the \\w+");
    }
}

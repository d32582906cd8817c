import java.io.IOException;
import java.nio.file.Files;
import java.nio.file.Path;
import java.util.ArrayList;
import java.util.Arrays;
import java.util.List;
import java.util.regex.Matcher;
import java.util.regex.Pattern;
import java.util.stream.Stream;

/**
 * The boundary cases under src/test/edges. A file there has these lines:
 *
 * <pre>
 * # a remark
 * > Promise 9: words of that section of the document, which the cases below hold to
 * the name of a case
 *   its calls on a new object, in their order: promise(3) = 0; 9 x roll(0, 0, 6); value(9) throws AnException
 * </pre>
 *
 * "9 x" makes a call nine times, and a # among its arguments is then 0, 1, 2 and so on. A call
 * without "=" and "throws" must answer, no matter what.
 */
final class Edges {
    private static final Path FOLDER = Path.of("src/test/edges");
    private static final Pattern CALL = Pattern.compile("(?:(\\d+) x )?(\\w+)\\(([-\\d, #]*)\\)(?: (=|throws) (\\S+))?");

    final List<Quote> quotes = new ArrayList<>();
    final List<Case> cases = new ArrayList<>();
    /** Lines that are not as they must be. */
    final List<String> faults = new ArrayList<>();

    static final class Quote {
        final String section;
        final String words;
        int cases;

        private Quote(String section, String words) {
            this.section = section;
            this.words = words;
        }
    }

    static final class Case {
        final String name;
        final List<Call> calls = new ArrayList<>();

        private Case(String name) {
            this.name = name;
        }
    }

    static final class Call {
        final String name;
        final int[] arguments;
        /** As Checks.told tells it; null if every answer will do. */
        final String due;

        private Call(String name, int[] arguments, String due) {
            this.name = name;
            this.arguments = arguments;
            this.due = due;
        }

        boolean throwing() {
            return due != null && due.startsWith("throws.");
        }

        @Override
        public String toString() {
            return name + Arrays.toString(arguments);
        }
    }

    static Edges read() throws IOException {
        Edges edges = new Edges();
        List<Path> files;
        try (Stream<Path> listed = Files.list(FOLDER)) {
            files = listed.sorted().toList();
        }
        for (Path file : files) {
            edges.readFile(file);
        }
        return edges;
    }

    private void readFile(Path file) throws IOException {
        List<Quote> held = new ArrayList<>();
        boolean quoting = false;
        for (String line : Files.readAllLines(file)) {
            if (line.startsWith("> ")) {
                if (!quoting) {
                    held.clear();
                }
                quoting = true;
                held.add(quote(line.substring(2)));
            } else if (line.startsWith("  ")) {
                addCalls(line.strip());
            } else if (!line.isEmpty() && !line.startsWith("#")) {
                quoting = false;
                cases.add(new Case(line));
                held.forEach(quote -> quote.cases++);
            }
        }
    }

    private Quote quote(String line) {
        int colon = line.indexOf(": ");
        Quote quote = new Quote(line.substring(0, colon), line.substring(colon + 2));
        quotes.add(quote);
        return quote;
    }

    private void addCalls(String line) {
        for (String text : line.split("; ")) {
            Matcher call = CALL.matcher(text);
            if (cases.isEmpty() || !call.matches()) {
                faults.add(text);
                continue;
            }
            int times = call.group(1) == null ? 1 : Integer.parseInt(call.group(1));
            for (int time = 0; time < times; time++) {
                int[] arguments = arguments(call.group(3).replace("#", String.valueOf(time)));
                cases.get(cases.size() - 1).calls.add(new Call(call.group(2), arguments, due(call)));
            }
        }
    }

    private static int[] arguments(String texts) {
        return Stream.of(texts.split(", ")).filter(t -> !t.isEmpty()).mapToInt(Integer::parseInt).toArray();
    }

    private static String due(Matcher call) {
        if (call.group(4) == null) {
            return null;
        }
        return call.group(4).equals("=") ? call.group(5) : "throws." + call.group(5);
    }
}

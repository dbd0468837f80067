import java.io.IOException;
import java.nio.charset.StandardCharsets;
import java.nio.file.Files;
import java.nio.file.Path;
import java.util.Arrays;
import java.util.Map;
import java.util.Set;

/** That each sentence of the document has a test: all words from its first line on, up to what is not promised. */
public final class SentencesTest {
    private static final Path DOCUMENT = Path.of("../shared/DOC.md");
    /** What stands between the sentences. */
    private static final Set<String> HEADINGS = Set.of("}", "} TEXTS", "TOKENS:", "==== II. RUNS", "==== III. TOLD CLOSER");

    public static void main(String[] args) throws IOException {
        Tester tester = new Tester();
        new FaceEdgeTest(tester).all();
        new TapeEdgeTest(tester).all();
        new TokenEdgeTest(tester).all();
        new GrammarEdgeTest(tester).all();
        new FaultEdgeTest(tester).all();
        new CodeEdgeTest(tester).all();
        new ValueEdgeTest(tester).all();
        new ThrowEdgeTest(tester).all();
        new LimitEdgeTest(tester).all();
        new CallEdgeTest(tester).all();
        if (!Files.exists(DOCUMENT)) {
            System.out.println("no document to compare the sentences with");
        } else {
            compare(tester, Files.readString(DOCUMENT, StandardCharsets.UTF_8));
        }
        tester.finish();
    }

    private static void compare(Tester tester, String document) {
        Map<String, Integer> asks = Map.copyOf(tester.asksBySentence());
        String whole = oneLine(document);
        String words = oneLine(whatIsPromised(document));
        boolean[] told = new boolean[words.length()];
        for (Map.Entry<String, Integer> one : asks.entrySet()) {
            tester.sentence(one.getKey());
            tester.due("whether answers are compared by it", one.getValue() > 0, true);
            tester.due("whether the document says it", whole.contains(one.getKey()), true);
            for (int at = words.indexOf(one.getKey()); at >= 0; at = words.indexOf(one.getKey(), at + 1)) {
                Arrays.fill(told, at, at + one.getKey().length(), true);
            }
        }
        tester.sentence("");
        int from = 0;
        for (int at = 0; at <= told.length; at++) {
            if (at == told.length || told[at]) {
                String left = words.substring(Math.min(from, at), at).trim();
                tester.due("words that no test tells: '" + left + "'", left.isEmpty() || HEADINGS.contains(left), true);
                from = at + 1;
            }
        }
    }

    private static String whatIsPromised(String document) {
        String part = document.substring(document.indexOf("## What it is"), document.indexOf("## Not promised"));
        StringBuilder lines = new StringBuilder();
        for (String line : part.split("\n")) {
            boolean heading = line.startsWith("#") || line.startsWith("```");
            // A promise begins with the call that it is of, as code.
            lines.append(heading ? "" : line.replaceFirst("^`[^`]*`: ", "")).append('\n');
        }
        return lines.toString();
    }

    private static String oneLine(String text) {
        return text.replace("`", "").replaceAll("\\s+", " ").trim();
    }
}

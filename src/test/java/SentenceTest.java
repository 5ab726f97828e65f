import java.io.IOException;
import java.nio.file.Files;
import java.nio.file.Path;
import java.util.ArrayList;
import java.util.BitSet;
import java.util.LinkedHashMap;
import java.util.List;
import java.util.Map;
import java.util.regex.Matcher;
import java.util.regex.Pattern;
import java.util.stream.Stream;

/** Whether the words that the tests say they hold stand in the document, and whether each word of it is among them. */
public final class SentenceTest {
    private static final Pattern TOLD = Pattern.compile(
        "CHECK\\.sentence\\(\"([^\"]*)\",\\s*((?:\"(?:[^\"\\\\]|\\\\.)*\"\\s*\\+?\\s*)+)\\)");
    private static final Pattern SIGNED = Pattern.compile("\\bsigned\\(\"([^\"]*)\", \"([^\"]*)\"\\)");
    private static final Pattern TEXT = Pattern.compile("\"((?:[^\"\\\\]|\\\\.)*)\"");
    private static final Pattern EDGE = Pattern.compile("\\b(NONE|FULL|STATE|THERE|NO_WAY|NO_VALUE|\\d+)\\b");
    private static final int PROMISES = 33;
    private static final Check CHECK = new Check();

    private final Map<String, String> document = new LinkedHashMap<>();
    private final Map<String, BitSet> held = new LinkedHashMap<>();

    private SentenceTest() {
    }

    public static void main(String[] args) throws IOException {
        SentenceTest test = new SentenceTest();
        Path tests = Path.of(System.getProperty("source")).resolve("../../../test/java").normalize();
        test.readDocument(Path.of(System.getProperty("shared")).resolve("DOC.md"));
        test.readTests(tests);
        test.checkEachPromise();
        test.checkEachEdge();
        test.checkEachWord();
        CHECK.end();
    }

    /** Each part by its name: "Promise 1" and so on, and all ahead of these as "Terms". */
    private void readDocument(Path path) throws IOException {
        String[] parts = Files.readString(path).split("(?m)^## ");
        StringBuilder terms = new StringBuilder();
        for (String part : parts) {
            String name = part.lines().findFirst().orElse("");
            String words = part.substring(name.length()).trim();
            if (name.startsWith("Promise ")) {
                document.put(name.substring(0, name.indexOf(':')), oneLine(words));
            } else if (name.equals("What it is") || name.equals("Terms")) {
                terms.append(words).append('\n');
            }
        }
        document.put("Terms", oneLine(terms.toString()));
        for (String name : document.keySet()) {
            held.put(name, new BitSet());
        }
    }

    private static String oneLine(String words) {
        return words.replace("```text", " ").replace("```", " ").replaceAll("======== \\d ?", " ").replaceAll("\\s+", " ").trim();
    }

    private void readTests(Path folder) throws IOException {
        List<Path> files = new ArrayList<>();
        try (Stream<Path> all = Files.list(folder)) {
            all.filter(path -> path.toString().endsWith("Test.java")).sorted().forEach(files::add);
        }
        CHECK.promise("tests told by sentences");
        for (Path file : files) {
            String text = Files.readString(file);
            for (Matcher told = TOLD.matcher(text); told.find();) {
                hold(file.getFileName() + ", " + told.group(1), told.group(1), wordsOf(told.group(2)));
            }
            for (Matcher signed = SIGNED.matcher(text); signed.find();) {
                hold(file.getFileName() + ", " + signed.group(1), signed.group(1), "`" + signed.group(2) + "`:");
            }
        }
    }

    private static String wordsOf(String texts) {
        StringBuilder words = new StringBuilder();
        Matcher text = TEXT.matcher(texts);
        while (text.find()) {
            words.append(text.group(1));
        }
        return words.toString();
    }

    private void hold(String place, String name, String words) {
        String part = document.getOrDefault(name, "");
        int at = part.indexOf(words);
        CHECK.due(place + ": '" + words + "' stands in the document", at >= 0 ? 1 : 0, 1);
        while (at >= 0) {
            held.get(name).set(at, at + words.length());
            at = part.indexOf(words, at + 1);
        }
    }

    private void checkEachPromise() {
        CHECK.promise("each promise");
        CHECK.due("promises of the document", document.size() - 1, PROMISES);
        for (int i = 1; i <= PROMISES; i++) {
            BitSet words = held.get("Promise " + i);
            CHECK.due("promise " + i + " has a test told by a sentence", words != null && !words.isEmpty() ? 1 : 0, 1);
        }
    }

    private void checkEachEdge() {
        CHECK.promise("each edge");
        for (Map.Entry<String, String> part : document.entrySet()) {
            Matcher edge = EDGE.matcher(part.getValue());
            while (edge.find()) {
                boolean isHeld = held.get(part.getKey()).get(edge.start());
                String near = part.getValue().substring(Math.max(0, edge.start() - 30), edge.end());
                CHECK.due(part.getKey() + ": '.." + near + "' is in a sentence of a test", isHeld ? 1 : 0, 1);
            }
        }
    }

    private void checkEachWord() {
        CHECK.promise("each word");
        for (Map.Entry<String, String> part : document.entrySet()) {
            BitSet words = held.get(part.getKey());
            int at = words.nextClearBit(0);
            while (at < part.getValue().length()) {
                int end = words.nextSetBit(at);
                String left = part.getValue().substring(at, end < 0 ? part.getValue().length() : end);
                boolean isWord = left.chars().anyMatch(Character::isLetterOrDigit);
                CHECK.due(part.getKey() + ": '" + left + "' is in a sentence of a test", isWord ? 0 : 1, 1);
                at = end < 0 ? part.getValue().length() : words.nextClearBit(end);
            }
        }
    }
}

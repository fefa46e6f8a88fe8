import java.io.IOException;
import java.nio.file.Files;
import java.nio.file.Path;
import java.util.HashMap;
import java.util.HashSet;
import java.util.List;
import java.util.Map;
import java.util.Set;
import java.util.regex.Matcher;
import java.util.regex.Pattern;
import java.util.stream.Collectors;
import java.util.stream.Stream;

/**
 * The sentences that the tests of the edges quote stand in the document, each in its section, and each
 * promise and each sentence there that names an exception is quoted: so a document that changes shows
 * where tests do.
 */
public final class SentencesTest {
    private static final Path DOCUMENT = Path.of("../shared/DOC.md");
    private static final Path TESTS = Path.of("src/test/java");
    private static final int PROMISES = 33;
    private static final Pattern QUOTE =
            Pattern.compile("Check\\.sentence\\(\\s*\"([^\"]*)\",((?:[\\s+]*\"[^\"]*\")+)\\)");
    private static final Pattern TEXT = Pattern.compile("\"([^\"]*)\"");

    public static void main(String[] args) throws IOException {
        if (!Files.isReadable(DOCUMENT)) {
            System.out.println("there is no document to compare with");
            return;
        }
        Map<String, String> sections = sections();
        Map<String, Set<String>> quotes = quotes();
        quotes.forEach((section, sentences) -> {
            for (String sentence : sentences) {
                Check.same(section + " says '" + sentence + "'",
                        sections.getOrDefault(section, "").contains(sentence), true);
            }
        });
        sections.forEach((section, text) -> text.lines().filter(line -> line.startsWith("Throws ")).forEach(line ->
                Check.same(section + ", a test for '" + line + "'",
                        quotes.getOrDefault(section, Set.of()).contains(line), true)));
        for (int promise = 1; promise <= PROMISES; promise++) {
            String section = "Promise " + promise;
            Check.same(section + " stands in the document", sections.containsKey(section), true);
            Check.same(section + " has a test", quotes.containsKey(section), true);
        }
        Check.same("there is no promise more", sections.containsKey("Promise " + (PROMISES + 1)), false);
        Check.end();
    }

    /** The text of each section, by its title up to the colon. */
    private static Map<String, String> sections() throws IOException {
        Map<String, String> sections = new HashMap<>();
        String title = "";
        for (String line : Files.readAllLines(DOCUMENT)) {
            if (line.startsWith("## ")) {
                title = line.substring(3).split(":")[0];
            } else {
                sections.merge(title, line + "\n", String::concat);
            }
        }
        return sections;
    }

    private static Map<String, Set<String>> quotes() throws IOException {
        Map<String, Set<String>> quotes = new HashMap<>();
        for (Path test : edgeTests()) {
            Matcher quote = QUOTE.matcher(Files.readString(test));
            while (quote.find()) {
                String sentence = TEXT.matcher(quote.group(2)).results()
                        .map(text -> text.group(1)).collect(Collectors.joining());
                quotes.computeIfAbsent(quote.group(1), section -> new HashSet<>()).add(sentence);
            }
        }
        return quotes;
    }

    private static List<Path> edgeTests() throws IOException {
        try (Stream<Path> files = Files.list(TESTS)) {
            return files.filter(file -> file.getFileName().toString().startsWith("EdgesOf")).toList();
        }
    }
}

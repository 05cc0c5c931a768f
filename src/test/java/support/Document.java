import java.io.IOException;
import java.nio.file.Files;
import java.nio.file.Path;
import java.util.ArrayList;
import java.util.List;
import java.util.Map;
import java.util.Set;
import java.util.TreeMap;
import java.util.TreeSet;
import java.util.regex.Matcher;
import java.util.regex.Pattern;

/** The sentences of ../shared/DOC.md, by 'What it is', 'Terms', the term ('Days') or 'Promise 1' to 'Promise 31'. */
final class Document {
    private static final Pattern SIGNATURE = Pattern.compile("`[^`]*\\)[^`]*`: (.*)");
    private static final Pattern TERM = Pattern.compile("([A-Z][a-z]+)\\. (.*)");
    /** What is wrong with such a number is said where its exception is. */
    private static final Pattern ONLY_A_NUMBER = Pattern.compile("- `\\w+`: the number of the \\w+");

    private static final Pattern THROWS = Pattern.compile("Throws `(\\w+)` .*");

    private final Map<String, List<String>> sentences = new TreeMap<>();
    private final Set<String> refusals = new TreeSet<>();

    static Document read() throws IOException {
        Document document = new Document();
        String heading = "";
        for (String line : Files.readAllLines(Path.of("../shared/DOC.md"))) {
            if (line.startsWith("## ")) {
                heading = line.substring(3);
            } else {
                document.addLine(heading.replaceAll(":.*", ""), line.strip());
                document.addRefusal(heading.replaceAll(".*: ", ""), line.strip());
            }
        }
        return document;
    }

    /** As 'addFarm throws.IllegalStateException', for each method and each exception of its promise. */
    Set<String> refusals() {
        return refusals;
    }

    List<String> sentencesOf(String part) {
        return sentences.getOrDefault(part, List.of());
    }

    private void addRefusal(String method, String line) {
        Matcher thrown = THROWS.matcher(line);
        if (thrown.matches()) {
            refusals.add(method + " throws." + thrown.group(1));
        }
    }

    private void addLine(String heading, String line) {
        if (heading.equals("Terms") && !line.startsWith("Ahead of the calls ")) {
            Matcher term = TERM.matcher(line);
            boolean named = term.matches();
            addSentences(named ? term.group(1) : heading, named ? term.group(2) : line);
        } else if (heading.equals("What it is")) {
            addSentences(heading, line);
        } else if (heading.startsWith("Promise ") && !ONLY_A_NUMBER.matcher(line).matches()) {
            Matcher signature = SIGNATURE.matcher(line);
            addSentences(heading, signature.matches() ? signature.group(1) : line.replaceAll("^- ", ""));
        }
    }

    private void addSentences(String part, String text) {
        for (String sentence : text.split("(?<=\\.) (?=[A-Z])")) {
            if (!sentence.isEmpty()) {
                sentences.computeIfAbsent(part, each -> new ArrayList<>()).add(sentence);
            }
        }
    }
}

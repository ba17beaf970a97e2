import java.io.IOException;
import java.nio.file.DirectoryStream;
import java.nio.file.Files;
import java.nio.file.Path;
import java.util.ArrayList;
import java.util.HashMap;
import java.util.List;
import java.util.Map;
import java.util.regex.Matcher;
import java.util.regex.Pattern;

/**
 * Each sentence of the document's terms and promises is quoted by a test: by says("Promise 7", "A HOUSE is MOVED ..").
 * What no test quotes is told here, so that a sentence that is new or changed doesn't go without a test.
 */
public final class SentencesTest {
    private static final Pattern CONSTANT = Pattern.compile("String (\\w+) = \"(Terms \\d)\";");
    private static final Pattern QUOTE = Pattern.compile("DUE\\.says\\((\\w+|\"[^\"]*\"), ((?:\"[^\"]*\"(?:\\s*\\+\\s*)?)+)\\);");

    public static void main(String[] args) throws IOException {
        Map<String, List<String>> quotes = new HashMap<>();
        try (DirectoryStream<Path> files = Files.newDirectoryStream(Path.of("src/test/java"), "*Test.java")) {
            for (Path file : files) gather(Files.readString(file), quotes);
        }
        int open = 0;
        for (String part : Document.PARTS.keySet()) {
            String left = left(Document.PARTS.get(part), quotes.getOrDefault(part, List.of()));
            if (left.isEmpty()) continue;
            open++;
            System.out.println(part + ": no test quotes \"" + left + "\"");
        }
        if (Document.PARTS.size() != 43) {
            open++;
            System.out.println("4 parts of the terms and 39 promises are due, there are " + Document.PARTS.size());
        }
        System.out.println(open == 0 ? "SentencesTest: each sentence is quoted by a test" : open + " parts have sentences without a test");
        if (open != 0) System.exit(1);
    }

    private static void gather(String source, Map<String, List<String>> quotes) {
        Map<String, String> constants = new HashMap<>();
        for (Matcher m = CONSTANT.matcher(source); m.find(); ) constants.put(m.group(1), m.group(2));
        for (Matcher m = QUOTE.matcher(source); m.find(); ) {
            String part = m.group(1).startsWith("\"") ? m.group(1).replace("\"", "") : constants.get(m.group(1));
            String words = m.group(2).replaceAll("\"\\s*\\+\\s*\"", "");
            quotes.computeIfAbsent(part, p -> new ArrayList<>()).add(words.substring(1, words.length() - 1));
        }
    }

    /** What is left of a part when all quotes are taken out, without blanks and stops. */
    private static String left(String text, List<String> quotes) {
        boolean[] quoted = new boolean[text.length()];
        for (String q : quotes) {
            for (int at = text.indexOf(q); at >= 0; at = text.indexOf(q, at + 1)) {
                for (int i = 0; i < q.length(); i++) quoted[at + i] = true;
            }
        }
        StringBuilder left = new StringBuilder();
        for (int i = 0; i < text.length(); i++) left.append(quoted[i] ? '\n' : text.charAt(i));
        // Headings and the marks of a block of text are no sentences.
        return left.toString().replaceAll("```(text)?", "").replace("THE GROUND:", "").replaceAll("[\\s.,;:]+", " ").trim();
    }
}

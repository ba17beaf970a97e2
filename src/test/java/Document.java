import java.io.IOException;
import java.io.UncheckedIOException;
import java.nio.file.Files;
import java.nio.file.Path;
import java.util.LinkedHashMap;
import java.util.Map;
import java.util.regex.Matcher;
import java.util.regex.Pattern;

/** The parts of ../shared/DOC.md that promise something: "Terms 1" .. "Terms 4", "Promise 1" .. "Promise 39". */
final class Document {
    static final Map<String, String> PARTS = read();

    private static Map<String, String> read() {
        String all;
        try {
            all = Files.readString(Path.of("../shared/DOC.md"));
        } catch (IOException e) {
            throw new UncheckedIOException(e);
        }
        Map<String, String> parts = new LinkedHashMap<>();
        String terms = all.substring(all.indexOf("## Terms"), all.indexOf("Ahead of the calls"));
        String[] four = terms.split("======== ");
        for (int i = 1; i < four.length; i++) parts.put("Terms " + i, four[i].substring(1));
        // A promise tells its call's head in the first pair of `, which is no sentence.
        Matcher m = Pattern.compile("## Promise (\\d+): [^\\n]*\\n\\s*`[^`]*`:([^#]*)").matcher(all);
        while (m.find()) parts.put("Promise " + m.group(1), m.group(2));
        return parts;
    }

    static boolean says(String part, String words) {
        return PARTS.getOrDefault(part, "").contains(words);
    }
}

import java.io.ByteArrayOutputStream;
import java.io.File;
import java.io.IOException;
import java.io.PrintStream;
import java.lang.reflect.Method;
import java.lang.reflect.Modifier;
import java.net.URL;
import java.net.URLClassLoader;
import java.nio.file.DirectoryStream;
import java.nio.file.Files;
import java.nio.file.Path;
import java.util.ArrayList;
import java.util.List;
import java.util.regex.Matcher;
import java.util.regex.Pattern;
import javax.tools.ToolProvider;

/** README.md: its example compiles by its own command and answers as told there; it names each call and each test. */
public final class ReadmeTest {
    private static final Due DUE = new Due();
    // A line of the example: a call, and behind // the answer with what it means.
    private static final Pattern TOLD = Pattern.compile("tell\\((x\\..*)\\);\\s*// (-?\\d+): .+");

    public static void main(String[] args) throws Exception {
        String readme = Files.readString(Path.of("README.md"));
        Path room = Files.createTempDirectory("readme");
        try {
            checkExample(readme, room);
        } finally {
            remove(room);
        }
        checkCalls(readme);
        checkTests(readme);
        DUE.end("ReadmeTest");
    }

    private static void checkExample(String readme, Path room) throws Exception {
        String example = between(readme, "```java\n", "```");
        Files.writeString(room.resolve("Walk.java"), example);
        if (!compile(readme, room)) {
            DUE.fail("the example does not compile by the command that is told");
            return;
        }
        List<String> calls = new ArrayList<>(), due = new ArrayList<>();
        for (String line : example.split("\n")) {
            if (!line.contains("tell(x.")) continue;
            Matcher m = TOLD.matcher(line.trim());
            if (!m.matches()) DUE.fail("no answer is told: " + line.trim());
            else {
                calls.add(m.group(1));
                due.add(m.group(2));
            }
        }
        List<String> got = run(room.resolve("out"));
        DUE.is("answers of the example", got.size(), due.size());
        for (int i = 0; i < Math.min(got.size(), due.size()); i++) DUE.is(calls.get(i), Long.parseLong(got.get(i)), Long.parseLong(due.get(i)));
        DUE.is("there are answers", due.size() > 0 ? 1 : 0, 1);
    }

    /** The page's own javac line; what it names that is not the class's file stands in the room. */
    private static boolean compile(String readme, Path room) {
        List<String> words = new ArrayList<>();
        for (String word : between(readme, "\njavac ", "\n").trim().split(" ")) {
            boolean inRoom = word.equals("Walk.java") || word.equals("out");
            words.add(inRoom ? room.resolve(word).toString() : word);
        }
        return ToolProvider.getSystemJavaCompiler().run(null, null, null, words.toArray(new String[0])) == 0;
    }

    private static List<String> run(Path classes) throws Exception {
        ByteArrayOutputStream told = new ByteArrayOutputStream();
        PrintStream before = System.out;
        URL[] from = {classes.toUri().toURL()};
        try (URLClassLoader loader = new URLClassLoader(from, ClassLoader.getPlatformClassLoader())) {
            System.setOut(new PrintStream(told, true));
            loader.loadClass("Walk").getMethod("main", String[].class).invoke(null, (Object) new String[0]);
        } finally {
            System.setOut(before);
        }
        return told.toString().lines().toList();
    }

    private static void checkCalls(String readme) {
        for (Method m : HollowShire.class.getDeclaredMethods()) {
            if (Modifier.isPublic(m.getModifiers()) && !readme.contains("`" + m.getName() + "`")) DUE.fail("the page does not name " + m.getName());
        }
        for (String refusal : new String[] {"`NONE`, -1", "`BAD`, -2", "`STATE`, -3", "`FULL`, -4", "`NO`, " + HollowShire.NO,
            "-5, -7", "-11, -12, -13, -14", "-100"}) {
            if (!readme.contains("| " + refusal)) DUE.fail("the page does not tell the refusal " + refusal);
        }
    }

    private static void checkTests(String readme) throws IOException {
        if (!readme.contains("\n.ci/run\n")) DUE.fail("the page does not say how to run the tests");
        try (DirectoryStream<Path> files = Files.newDirectoryStream(Path.of("src/test/java"), "*.java")) {
            for (Path file : files) {
                String name = file.getFileName().toString().replace(".java", "");
                if (!readme.contains("`" + name + "`")) DUE.fail("the page does not name " + name);
            }
        }
    }

    private static String between(String text, String begin, String end) {
        int from = text.indexOf(begin);
        int to = from < 0 ? -1 : text.indexOf(end, from + begin.length());
        return to < 0 ? "" : text.substring(from + begin.length(), to);
    }

    private static void remove(Path room) {
        File[] inside = room.toFile().listFiles();
        if (inside != null) for (File f : inside) remove(f.toPath());
        room.toFile().delete();
    }
}

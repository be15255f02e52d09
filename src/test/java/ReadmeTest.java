import java.net.URL;
import java.net.URLClassLoader;
import java.nio.file.Files;
import java.nio.file.Path;
import java.util.ArrayList;
import java.util.List;
import java.util.Set;
import java.util.TreeSet;
import java.util.function.LongConsumer;
import java.util.regex.Matcher;
import java.util.regex.Pattern;
import javax.tools.ToolProvider;

/** README.md's examples, in one run: they compile, each call answers what stands behind it, and none is left out. */
public final class ReadmeTest {
    private static final Pattern BLOCK = Pattern.compile("(?s)```java\n(.*?)```");
    private static final Pattern ANSWERED =
        Pattern.compile("(?m)^ *(?:int (\\w+) = )?(x\\.(\\w+)\\(.*\\)); +// (-?\\w+)(?::.*|;.*)?$");
    private static final int MOST_CALLS = 512;

    private final List<String> calls = new ArrayList<>();
    private final List<Long> dues = new ArrayList<>();
    private int answered = 0;

    public static void main(String[] args) throws Exception {
        ReadmeTest test = new ReadmeTest();
        test.run(test.example(Files.readString(Path.of("README.md"))));
        Check.end();
    }

    /** The blocks, with each answer handed on to "answers". */
    private String example(String readme) throws ReflectiveOperationException {
        Set<String> shown = new TreeSet<>();
        StringBuilder body = new StringBuilder();
        Matcher block = BLOCK.matcher(readme);
        while (block.find()) {
            for (String line : block.group(1).split("\n")) {
                Matcher m = ANSWERED.matcher(line);
                shown.addAll(names(line));
                Check.due("README: an answer can be read: " + line, m.matches() || !line.contains("//") ? 1 : 0, 1);
                body.append(m.matches() ? handedOn(m) : line).append('\n');
            }
        }
        for (var method : TandemKeepsAPlace.class.getMethods()) {
            if (method.getDeclaringClass() == TandemKeepsAPlace.class) {
                Check.due("README shows " + method.getName(), shown.contains(method.getName()) ? 1 : 0, 1);
            }
        }
        return "public class Example { public static void run(java.util.function.LongConsumer answers) {\n" + body + "}}\n";
    }

    private static List<String> names(String line) {
        return Pattern.compile("\\bx\\.(\\w+)\\(").matcher(line).results().map(m -> m.group(1)).toList();
    }

    private String handedOn(Matcher m) throws ReflectiveOperationException {
        calls.add(m.group(2));
        boolean named = m.group(4).matches("[A-Z]+");
        dues.add(named
            ? ((Number) TandemKeepsAPlace.class.getField(m.group(4)).get(null)).longValue() : Long.parseLong(m.group(4)));
        return m.group(1) == null
            ? "answers.accept(" + m.group(2) + ");"
            : "int " + m.group(1) + " = " + m.group(2) + "; answers.accept(" + m.group(1) + ");";
    }

    private void run(String example) throws Exception {
        Path folder = Files.createTempDirectory("readme");
        Path source = Files.writeString(folder.resolve("Example.java"), example);
        int compiled = ToolProvider.getSystemJavaCompiler().run(null, null, null,
            "-cp", System.getProperty("java.class.path"), "-d", folder.toString(), source.toString());
        Check.due("README: the examples compile", compiled, 0);
        if (compiled == 0) {
            try (URLClassLoader loader = new URLClassLoader(new URL[] {folder.toUri().toURL()})) {
                LongConsumer answers = this::answer;
                loader.loadClass("Example").getMethod("run", LongConsumer.class).invoke(null, answers);
            }
        }
        Check.due("README: all answers came", answered, calls.size());
        Check.due("README: some answers are shown", answered > 0 && answered <= MOST_CALLS ? 1 : 0, 1);
        for (String left : new String[] {"Example.java", "Example.class", "."}) {
            Files.deleteIfExists(folder.resolve(left).normalize());
        }
    }

    private void answer(long got) {
        Check.due("README: " + calls.get(answered), got, dues.get(answered));
        answered++;
    }
}

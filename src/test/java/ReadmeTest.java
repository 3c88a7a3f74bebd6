import java.net.URL;
import java.net.URLClassLoader;
import java.nio.file.Files;
import java.nio.file.Path;
import java.util.ArrayList;
import java.util.List;
import java.util.regex.Matcher;
import java.util.regex.Pattern;
import javax.tools.ToolProvider;

/** README.md's example compiles, gives what its comments say, and its tables name every call of the face. */
public final class ReadmeTest {
    private static final String[] CALLS = {
        "VotedCore", "write", "set", "register", "look", "bits", "flip", "plan", "planned", "run", "cause", "value",
        "resume", "cycles", "count"
    };

    /** A line that keeps an answer and tells it first in its comment. */
    private static final Pattern ANSWER = Pattern.compile("(?:int|long|boolean) (\\w+) = .*; *// (-?\\d+|true|false): .*");

    public static void main(String[] args) throws Exception {
        List<String> readme = Files.readAllLines(Path.of("README.md"));
        everyCallIsNamed(String.join("\n", readme));
        runExample(exampleOf(readme));
        Check.end();
    }

    private static void everyCallIsNamed(String readme) {
        for (String call : CALLS) {
            Check.due("README.md tells how to call " + call, readme.contains("`" + call + "("), true);
        }
    }

    private static List<String> exampleOf(List<String> readme) {
        int first = readme.indexOf("```java") + 1;
        int behind = readme.indexOf("```");
        Check.due("README.md has an example", first > 0 && behind > first, true);
        return first > 0 && behind > first ? readme.subList(first, behind) : List.of();
    }

    private static void runExample(List<String> example) throws Exception {
        Path folder = Files.createTempDirectory("readme");
        Path source = folder.resolve("ReadmeExample.java");
        Files.write(source, withChecks(example));
        int compiled = ToolProvider.getSystemJavaCompiler().run(null, null, null,
            "-cp", System.getProperty("java.class.path"), "-d", folder.toString(), source.toString());
        Check.due("README.md's example, compiled,", compiled, 0);
        if (compiled == 0) {
            try (URLClassLoader loader = new URLClassLoader(new URL[] {folder.toUri().toURL()})) {
                long[][] answers = (long[][]) loader.loadClass("ReadmeExample").getMethod("answers").invoke(null);
                for (int i = 0; i < answers.length; i++) {
                    Check.due("README.md's example, answer " + (i + 1), answers[i][0], answers[i][1]);
                }
            }
        }
        for (String name : new String[] {"ReadmeExample.class", "ReadmeExample.java", ""}) {
            Files.deleteIfExists(folder.resolve(name));
        }
    }

    /** The example as a class whose method answers pairs: what came, and what the comment told. */
    private static List<String> withChecks(List<String> example) {
        List<String> source = new ArrayList<>();
        StringBuilder pairs = new StringBuilder();
        source.add("public final class ReadmeExample { public static long[][] answers() {");
        for (String line : example) {
            source.add(line);
            Matcher answer = ANSWER.matcher(line);
            if (answer.matches()) {
                pairs.append("{").append(asLong(answer.group(1), line)).append(", ");
                pairs.append(asLong(answer.group(2), line)).append("},");
            }
        }
        Check.due("README.md's example tells answers", pairs.length() > 0, true);
        source.add("return new long[][] {" + pairs + "}; } }");
        return source;
    }

    private static String asLong(String expression, String line) {
        return line.startsWith("boolean") ? "(" + expression + " ? 1L : 0L)" : expression;
    }
}

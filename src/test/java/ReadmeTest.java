import java.io.IOException;
import java.nio.file.Files;
import java.nio.file.Path;
import java.util.ArrayList;
import java.util.List;
import java.util.regex.Matcher;
import java.util.regex.Pattern;
import java.util.stream.Stream;

// README.md tells the face, the ERRORS and the tests as they are, and its example's answers hold.
public final class ReadmeTest {
    private static final Path TESTS = Path.of("src/test/java");
    private static final Pattern LINE = Pattern.compile("(?m)^x\\.(\\w+\\(.*?\\)); +// (-?\\d+|[A-Z]+)(?:$|: )");

    public static void main(String[] args) throws IOException {
        String readme = Files.readString(Path.of("README.md"));
        face(readme, Files.readString(Path.of("../shared/DOC.md")));
        errors(readme);
        example(readme);
        tests(readme);
        Due.close();
    }

    private static void face(String readme, String document) {
        Due.about("README.md, the face");
        int from = document.indexOf("public final class VeilSteps {");
        int to = document.indexOf("\n}\n", from);
        Due.holds("the document tells the face", from >= 0 && to > from);
        if (from >= 0 && to > from) {
            Due.holds("it is the document's, line by line", readme.contains(document.substring(from, to + 3)));
        }
    }

    // Each by an answer of the class, so that neither a name nor a number can be another's.
    private static void errors(String readme) {
        Due.about("README.md, the ERRORS");
        String[] ways = {
            "BEYOND: personIs(0, 0)", "NONE: restore()", "STATE: year(9999); years(1)",
            "FULL: " + "person(0, -1); ".repeat(8) + "person(0, -1)", "KIND: person(0, -1); as(0, 1)",
            "PARTED: person(0, -1); voice(0, 3, 1)",
        };
        for (int k = 1; k <= ways.length; k++) {
            String[] way = ways[k - 1].split(": ");
            int answer = answerOf(way[1]);
            Due.is(way[0], answer, Script.number(way[0]));
            Due.holds(way[0] + " has its row", readme.contains("| " + answer + " | " + k + " | " + way[0] + " | "));
        }
    }

    private static int answerOf(String calls) {
        Script script = new Script();
        int answer = 0;
        for (String call : calls.split("; ")) {
            answer = script.ask(call);
        }
        return answer;
    }

    private static void example(String readme) {
        Due.about("README.md, the example");
        String block = blockOf(readme, "VeilSteps x = new VeilSteps();\n");
        List<String> calls = new ArrayList<>();
        Matcher lines = LINE.matcher(block);
        while (lines.find()) {
            calls.add(lines.group(1) + " = " + lines.group(2));
        }
        Due.is("lines with an answer", calls.size(), block.split("(?m)^x\\.", -1).length - 1);
        Due.holds("there are some", calls.size() > 20);
        Script script = new Script();
        for (String call : calls) {
            script.ask(call);
        }
    }

    private static String blockOf(String readme, String first) {
        int from = readme.indexOf("```java\n" + first);
        int to = readme.indexOf("\n```\n", Math.max(from, 0));
        return from < 0 || to < 0 ? "" : readme.substring(from, to + 1);
    }

    private static void tests(String readme) throws IOException {
        Due.about("README.md, the tests");
        List<String> named = new ArrayList<>();
        Matcher rows = Pattern.compile("(?m)^\\| `(\\w+)` \\| ").matcher(readme);
        while (rows.find()) {
            named.add(rows.group(1));
            Due.holds(rows.group(1) + " is there", Files.exists(TESTS.resolve(rows.group(1) + ".java")));
        }
        try (Stream<Path> files = Files.list(TESTS)) {
            for (Path file : (Iterable<Path>) files::iterator) {
                String name = file.getFileName().toString().replace(".java", "");
                Due.holds(name + " has a row", !name.endsWith("Test") || named.contains(name));
            }
        }
        Due.holds("how to run all", readme.contains("```sh\n.ci/run\n```"));
        Due.holds("how to run one alone", Pattern.compile("\njava -cp out (" + String.join("|", named) + ")\n").matcher(readme).find());
    }
}

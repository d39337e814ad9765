import java.io.IOException;
import java.nio.file.Files;
import java.nio.file.Path;
import java.util.Set;
import java.util.TreeSet;
import java.util.regex.Matcher;
import java.util.regex.Pattern;
import java.util.stream.Collectors;
import java.util.stream.Stream;

/** What README.md tells of the class and of its tests is so. */
public final class ReadmeTest {
    private static final Pattern EXAMPLE = Pattern.compile("```java\\n(.*?)```", Pattern.DOTALL);
    private static final Pattern ANSWERED = Pattern.compile("r\\.(\\w+)\\(([-\\d, ]*)\\); +// (-?\\d+|true|false)\\b.*");
    private static final Pattern TEST = Pattern.compile("`(\\w+Test)`");
    private static final Due DUE = new Due();

    private static long number(String answer) {
        return answer.equals("true") ? 1 : answer.equals("false") ? 0 : Long.parseLong(answer);
    }

    private static void example(String readme) {
        Matcher block = EXAMPLE.matcher(readme);
        DUE.yes("an example", block.find());
        Asked asked = new Asked(DUE);
        String[] lines = block.group(1).split("\n");
        DUE.yes("it makes an object", lines[0].equals("MarksRegister r = new MarksRegister();"));
        for (int i = 1; i < lines.length; i++) {
            Matcher line = ANSWERED.matcher(lines[i]);
            boolean isCall = line.matches();
            DUE.yes("a call and its answer: " + lines[i], isCall);
            if (isCall) {
                asked.is("README", (line.group(1) + " " + line.group(2).replace(",", "")).strip(), number(line.group(3)));
            }
        }
    }

    private static void namesOfTests(String readme) throws IOException {
        Set<String> named = new TreeSet<>();
        Matcher m = TEST.matcher(readme);
        while (m.find()) {
            named.add(m.group(1));
        }
        try (Stream<Path> files = Files.list(Path.of("src/test/java"))) {
            Set<String> there = files.map(f -> f.getFileName().toString()).filter(f -> f.endsWith("Test.java"))
                .map(f -> f.replace(".java", "")).collect(Collectors.toCollection(TreeSet::new));
            DUE.yes("named " + named + ", there are " + there, named.equals(there));
        }
    }

    public static void main(String[] args) throws IOException {
        String readme = Files.readString(Path.of("README.md"));
        example(readme);
        namesOfTests(readme);
        DUE.end();
    }
}

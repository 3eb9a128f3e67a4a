import java.io.IOException;
import java.lang.reflect.Method;
import java.lang.reflect.Modifier;
import java.nio.file.Files;
import java.nio.file.Path;
import java.util.HashMap;
import java.util.List;
import java.util.Map;
import java.util.TreeSet;
import java.util.regex.Matcher;
import java.util.regex.Pattern;
import java.util.stream.Collectors;
import java.util.stream.Stream;

/** What README.md shows of calls and their answers is what the class answers. */
public final class ReadmeTest {
    private static final String NEW_OBJECT = "SunCourt court = new SunCourt();";
    private static final Pattern CALL = Pattern.compile(
        "(?:(int|boolean) (\\w+) = )?court\\.(\\w+)\\(([^()]*)\\); +// (-?\\d+|true|false)(?:: .+)?");

    private static final TreeSet<String> SHOWN = new TreeSet<>();

    private SunCourt court;
    private final Map<String, Integer> names = new HashMap<>();

    private ReadmeTest() {
    }

    public static void main(String[] args) throws IOException {
        List<String> lines = Files.readAllLines(Path.of("README.md"));
        Due.about("README.md, calls");
        runBlocks(lines);
        everyMethodIsShown();
        Due.about("README.md, tests");
        everyTestIsNamed(String.join("\n", lines));
        Due.end();
    }

    /** Each block of Java is a run of its own. */
    private static void runBlocks(List<String> lines) {
        ReadmeTest block = null;
        int blocks = 0;
        for (String line : lines) {
            if (line.equals("```java")) {
                block = new ReadmeTest();
                blocks++;
            } else if (line.equals("```")) {
                block = null;
            } else if (block != null) {
                block.run(line);
            }
        }
        Due.is("blocks of calls", blocks, 2);
    }

    private void run(String line) {
        if (line.isEmpty() || line.startsWith("// ")) {
            return;
        }
        if (line.equals(NEW_OBJECT)) {
            court = new SunCourt();
            return;
        }
        Matcher call = CALL.matcher(line);
        boolean understood = court != null && call.matches();
        Due.holds("a call and its answer: " + line, understood);
        if (understood) {
            compare(line, call);
        }
    }

    private void compare(String line, Matcher call) {
        int got = Scene.ask(court, call.group(3), numbers(call.group(4)));
        boolean truth = call.group(5).equals("true") || call.group(5).equals("false");
        Due.is(line, got, truth ? (call.group(5).equals("true") ? 1 : 0) : Integer.parseInt(call.group(5)));
        Due.is(line + " is a boolean", call.group(3).equals("release"), truth);
        if (call.group(2) != null) {
            Due.holds(line + " is given once", names.put(call.group(2), got) == null);
            Due.is(line + " is kept as a boolean", call.group(1).equals("boolean"), truth);
        }
        SHOWN.add(call.group(3));
    }

    private int[] numbers(String arguments) {
        String[] words = arguments.split(", ");
        int[] numbers = new int[words.length];
        for (int i = 0; i < words.length; i++) {
            numbers[i] = names.containsKey(words[i]) ? names.get(words[i]) : Integer.parseInt(words[i]);
        }
        return numbers;
    }

    private static void everyMethodIsShown() {
        for (Method method : SunCourt.class.getDeclaredMethods()) {
            if (Modifier.isPublic(method.getModifiers())) {
                Due.holds(method.getName() + " is shown", SHOWN.contains(method.getName()));
            }
        }
    }

    private static void everyTestIsNamed(String text) throws IOException {
        try (Stream<Path> files = Files.list(Path.of("src/test/java"))) {
            for (Path file : files.collect(Collectors.toList())) {
                String name = file.getFileName().toString().replace(".java", "");
                Due.holds(name + " is named", !name.endsWith("Test") || text.contains("`" + name + "`"));
            }
        }
        Due.holds("how to run them", text.contains("\n.ci/run\n"));
    }
}

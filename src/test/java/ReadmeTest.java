import java.io.IOException;
import java.lang.reflect.Method;
import java.lang.reflect.Modifier;
import java.nio.file.Files;
import java.nio.file.Path;
import java.util.Arrays;
import java.util.regex.Matcher;
import java.util.regex.Pattern;
import java.util.stream.Stream;

/** README.md: its example answers as it says, and it names every call and every file of the tests. */
public final class ReadmeTest {
    private static final String FIRST_LINE = "BeaconRing ring = new BeaconRing();";
    private static final Pattern EXAMPLE = Pattern.compile("(?s)```java\n(.*?)```");
    /** A call, and the answer if one stands behind it. */
    private static final Pattern CALL = Pattern.compile(
            "(?:(?:int|long) \\w+ = )?ring\\.(\\w+)\\(([-\\d, ]*)\\);\\s*(?://(?: = (-?\\d+|true|false)\\b)?.*)?");

    public static void main(String[] args) throws IOException {
        String readme = Files.readString(Path.of("README.md"));
        exampleAnswersAsTold(readme);
        everyCallIsNamed(readme);
        everyFileIsNamed(readme);
        Run.end();
    }

    private static void exampleAnswersAsTold(String readme) {
        Matcher example = EXAMPLE.matcher(readme);
        if (!example.find()) {
            Run.check(false, "README.md has no example");
            return;
        }
        String[] lines = example.group(1).split("\n");
        Run.check(lines[0].equals(FIRST_LINE), "the example begins with a new object");
        Run run = new Run("README.md");
        Arrays.stream(lines).skip(1).filter(line -> !line.isBlank()).forEach(line -> makeCall(run, line));
    }

    private static void makeCall(Run run, String line) {
        Matcher call = CALL.matcher(line);
        if (!call.matches()) {
            Run.check(false, "README.md: this line of the example is not understood: " + line);
            return;
        }
        long[] arguments = numbersOf(call.group(2));
        String due = call.group(3);
        if (due == null) {
            run.does(call.group(1), arguments);
        } else {
            run.gives(toNumber(due), call.group(1), arguments);
        }
    }

    private static long[] numbersOf(String text) {
        return text.isBlank() ? new long[0] : Arrays.stream(text.split(",\\s*")).mapToLong(Long::parseLong).toArray();
    }

    private static long toNumber(String answer) {
        return answer.equals("true") ? 1 : answer.equals("false") ? 0 : Long.parseLong(answer);
    }

    private static void everyCallIsNamed(String readme) {
        for (Method method : BeaconRing.class.getDeclaredMethods()) {
            if (Modifier.isPublic(method.getModifiers())) {
                Run.check(readme.contains("`" + method.getName() + "("), "README.md does not name " + method.getName());
            }
        }
    }

    private static void everyFileIsNamed(String readme) throws IOException {
        try (Stream<Path> files = Files.list(Path.of("src/test/java"))) {
            for (Path file : files.toList()) {
                String name = file.getFileName().toString().replace(".java", "");
                Run.check(readme.contains("`" + name + "`"), "README.md does not name " + name);
            }
        }
    }
}

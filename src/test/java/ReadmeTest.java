import java.io.IOException;
import java.io.UncheckedIOException;
import java.lang.reflect.Method;
import java.lang.reflect.Modifier;
import java.nio.file.Files;
import java.nio.file.Path;
import java.util.List;
import java.util.Set;
import java.util.TreeSet;
import java.util.regex.Matcher;
import java.util.regex.Pattern;
import java.util.stream.Stream;

/** README.md tells every call, and its example answers what it says. .ci/run starts it beside README.md. */
public final class ReadmeTest {
    private static final Pattern EXAMPLE = Pattern.compile("x\\.(\\w+)\\(([-0-9, ]*)\\); +// ([-\\w]+).*");
    private static final Pattern TABLE = Pattern.compile("\\| `(\\w+)\\(.*");
    private static final Set<String> WITHOUT_ANSWER = Set.of("begin", "mark", "preclean");

    public static void main(String[] args) {
        Check.sentence("README.md: the example answers what it says", ReadmeTest::example);
        Check.sentence("README.md: the example has every call", () -> hasEveryCall(EXAMPLE));
        Check.sentence("README.md: the table has every call", () -> hasEveryCall(TABLE));
        Check.end();
    }

    private static void example() {
        PileMarker x = new PileMarker();
        for (String line : lines()) {
            Matcher matcher = EXAMPLE.matcher(line);
            if (matcher.matches()) {
                Call call = new Call(matcher.group(1), numbers(matcher.group(2)));
                Check.due(line, call.on(x), answer(call.name(), matcher.group(3)));
            } else if (line.startsWith("x.")) {
                Check.wrong("no answer stands behind " + line);
            }
        }
    }

    private static String answer(String name, String told) {
        if (told.endsWith("Exception")) {
            return "throws." + told;
        }
        return WITHOUT_ANSWER.contains(name) ? Call.DONE : told;
    }

    private static int[] numbers(String text) {
        return Stream.of(text.split(",")).map(String::trim).filter(part -> !part.isEmpty())
            .mapToInt(Integer::parseInt).toArray();
    }

    private static void hasEveryCall(Pattern form) {
        Set<String> got = new TreeSet<>();
        for (String line : lines()) {
            Matcher matcher = form.matcher(line);
            if (matcher.matches()) {
                got.add(matcher.group(1));
            }
        }
        Set<String> want = new TreeSet<>();
        for (Method method : PileMarker.class.getDeclaredMethods()) {
            if (Modifier.isPublic(method.getModifiers())) {
                want.add(method.getName());
            }
        }
        Check.due("the calls", got.toString(), want.toString());
    }

    private static List<String> lines() {
        try {
            return Files.readAllLines(Path.of("README.md"));
        } catch (IOException e) {
            throw new UncheckedIOException(e);
        }
    }
}

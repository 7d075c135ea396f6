import java.lang.reflect.Method;
import java.nio.file.Files;
import java.nio.file.Path;
import java.util.Arrays;
import java.util.HashSet;
import java.util.Set;
import java.util.regex.Matcher;
import java.util.regex.Pattern;

/** The example of README.md: each call of it answers the number that stands behind it. */
public final class ReadmeTests {
    private static final Pattern EXAMPLE = Pattern.compile("(?s)```java\n(.*?)```");
    private static final Pattern TEXT = Pattern.compile("String text = \"(.*?)\";");
    private static final Pattern CALL = Pattern.compile("(?m)^x\\.(\\w+)\\(([-0-9, ]*)\\);\\s*// (-?\\d+)");

    public static void main(String[] args) throws Exception {
        String readme = Files.readString(Path.of("README.md"));
        Matcher example = EXAMPLE.matcher(readme);
        Check.holds("README.md has an example", example.find());
        answersOf(example.group(1));
        namesAllCalls(readme);
        Check.end("ReadmeTests");
    }

    private static void answersOf(String example) throws Exception {
        RodChimes x = new RodChimes();
        Matcher text = TEXT.matcher(example);
        Check.holds("the example has a text", text.find());
        Check.type(x, text.group(1));
        Matcher calls = CALL.matcher(example);
        int found = 0;
        while (calls.find()) {
            found++;
            Check.due("README: " + calls.group(1) + "(" + calls.group(2) + ")", Long.parseLong(calls.group(3)),
                answer(x, calls.group(1), calls.group(2)));
        }
        long told = example.lines().filter(line -> line.startsWith("x.")).count();
        Check.due("calls of the example that say an answer", told, found);
    }

    private static long answer(RodChimes x, String name, String numbers) throws Exception {
        Object[] given = Arrays.stream(numbers.split(",")).map(String::strip).filter(n -> !n.isEmpty())
            .map(Integer::valueOf).toArray();
        Class<?>[] types = new Class<?>[given.length];
        Arrays.fill(types, int.class);
        return ((Number) RodChimes.class.getMethod(name, types).invoke(x, given)).longValue();
    }

    private static void namesAllCalls(String readme) {
        Set<String> named = new HashSet<>();
        Matcher names = Pattern.compile("`(\\w+)`").matcher(readme);
        while (names.find()) {
            named.add(names.group(1));
        }
        for (Method m : RodChimes.class.getMethods()) {
            if (m.getDeclaringClass() == RodChimes.class) {
                Check.holds("README.md names " + m.getName(), named.contains(m.getName()));
            }
        }
    }
}

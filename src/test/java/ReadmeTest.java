import java.io.IOException;
import java.lang.reflect.Method;
import java.lang.reflect.Modifier;
import java.nio.file.Files;
import java.nio.file.Path;
import java.util.Arrays;
import java.util.List;
import java.util.regex.MatchResult;
import java.util.regex.Pattern;

/** README.md says how to use the class: its example answers as it says there, and it names every call of the face. */
public final class ReadmeTest {
    private static final Path README = Path.of("README.md");
    /** A call of the example with the answer behind it. */
    private static final Pattern CALL = Pattern.compile("(?m)^x\\.(\\w+)\\(([^)]*)\\); *// (true|false|-?\\d+)\\b");

    public static void main(String[] args) throws IOException, ReflectiveOperationException {
        String readme = Files.readString(README);
        namesEveryCall(readme);
        exampleAnswersAsItSays(readme);
        Checks.finish();
    }

    private static void namesEveryCall(String readme) {
        for (Method method : FreshAllotter.class.getDeclaredMethods()) {
            if (Modifier.isPublic(method.getModifiers())) {
                Checks.due("README.md names " + method.getName(), readme.contains("`" + method.getName() + "`"), true);
            }
        }
    }

    private static void exampleAnswersAsItSays(String readme) throws ReflectiveOperationException {
        List<MatchResult> calls = CALL.matcher(readme).results().toList();
        long callLines = readme.lines().filter(line -> line.startsWith("x.")).count();
        Checks.due("calls of the example that tell their answer", calls.size(), callLines);
        Checks.due("the example has calls", calls.isEmpty(), false);
        FreshAllotter x = new FreshAllotter();
        for (MatchResult call : calls) {
            Object got = answer(x, call.group(1), call.group(2));
            String told = call.group() + " (it answered " + got + ")";
            Checks.due("README.md is right with " + told, got.toString().equals(call.group(3)), true);
        }
    }

    private static Object answer(FreshAllotter x, String name, String numbers) throws ReflectiveOperationException {
        Object[] values = numbers.isEmpty() ? new Object[0]
                : Arrays.stream(numbers.split(", ")).map(Integer::decode).toArray();
        Class<?>[] types = new Class<?>[values.length];
        Arrays.fill(types, int.class);
        return FreshAllotter.class.getMethod(name, types).invoke(x, values);
    }
}

import java.io.IOException;
import java.lang.reflect.Method;
import java.lang.reflect.Modifier;
import java.nio.file.Files;
import java.nio.file.Path;
import java.util.Arrays;
import java.util.regex.Matcher;
import java.util.regex.Pattern;

/** README.md tells of each public method, and the answers in its example are those that come. */
public final class ReadmeTest {
    private static final Pattern EXAMPLE = Pattern.compile("(?s)```java\n(.*?)```");
    private static final Pattern CALL = Pattern.compile("x\\.(\\w+)\\(([^)]*)\\); +// (-?\\d+|true|false): .*");

    public static void main(String[] args) throws ReflectiveOperationException, IOException {
        String readme = Files.readString(Path.of("README.md"));
        eachMethodIsToldOf(readme);
        exampleHolds(readme);
        Check.end();
    }

    private static void eachMethodIsToldOf(String readme) {
        for (Method method : TestsFromUse.class.getDeclaredMethods()) {
            if (Modifier.isPublic(method.getModifiers())) {
                String head = "| `" + method.getReturnType() + " " + method.getName() + "(";
                Check.due("README.md tells of " + method.getName(), readme.contains(head), true);
                Check.due("the example uses " + method.getName(), readme.contains("x." + method.getName() + "("), true);
            }
        }
    }

    private static void exampleHolds(String readme) throws ReflectiveOperationException {
        Matcher example = EXAMPLE.matcher(readme);
        Check.due("there is an example", example.find(), true);
        String[] lines = example.group(1).split("\n");
        Check.due("it begins with a new object", lines[0].equals("TestsFromUse x = new TestsFromUse();"), true);
        TestsFromUse x = new TestsFromUse();
        for (int i = 1; i < lines.length; i++) {
            Matcher call = CALL.matcher(lines[i]);
            boolean told = call.matches();
            Check.due("a call with its answer: " + lines[i], told, true);
            if (told) {
                String got = String.valueOf(answer(x, call.group(1), call.group(2)));
                Check.due(lines[i] + " (it answers " + got + ")", got.equals(call.group(3)), true);
            }
        }
    }

    private static Object answer(TestsFromUse x, String name, String numbers) throws ReflectiveOperationException {
        Object[] arguments = numbers.isEmpty() ? new Object[0]
            : Arrays.stream(numbers.split(", ")).map(Integer::valueOf).toArray();
        Class<?>[] types = new Class<?>[arguments.length];
        Arrays.fill(types, int.class);
        return TestsFromUse.class.getMethod(name, types).invoke(x, arguments);
    }
}

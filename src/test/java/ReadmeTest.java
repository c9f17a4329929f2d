import java.io.IOException;
import java.lang.reflect.Method;
import java.lang.reflect.Modifier;
import java.nio.file.Files;
import java.nio.file.Path;
import java.util.regex.Matcher;
import java.util.regex.Pattern;

/** README.md's example answers what it says there, and no call is left out of its table. */
public final class ReadmeTest {
    private static final Pattern CALL = Pattern.compile("(?m)^lift\\.(\\w+)\\(([-0-9, ]*)\\); +// (-?\\d+): ");
    private static final Pattern LETTERS = Pattern.compile("\"([a-z0-9; ]+)\"");
    private static int wrong = 0;

    private static void due(boolean fine, String what) {
        if (!fine) {
            wrong++;
            System.out.println(what);
        }
    }

    private static String example(String readme) {
        int start = readme.indexOf("```java");
        int end = readme.indexOf("```\n", Math.max(0, start));
        due(start >= 0 && end > start, "README.md has no example");
        return start >= 0 && end > start ? readme.substring(start, end) : "";
    }

    private static ToLiftToStrike toldTheText(String example) {
        StringBuilder text = new StringBuilder();
        Matcher letters = LETTERS.matcher(example);
        while (letters.find()) text.append(letters.group(1));
        ToLiftToStrike lift = new ToLiftToStrike();
        lift.row(0, 0, text.length());
        for (int i = 0; i < text.length(); i++) lift.set(0, i, text.charAt(i));
        return lift;
    }

    private static long answer(ToLiftToStrike lift, String name, String inputs) throws ReflectiveOperationException {
        String[] parts = inputs.isEmpty() ? new String[0] : inputs.split(", ");
        Class<?>[] types = new Class<?>[parts.length];
        Object[] numbers = new Object[parts.length];
        for (int i = 0; i < parts.length; i++) {
            types[i] = int.class;
            numbers[i] = Integer.valueOf(parts[i]);
        }
        return ((Number) ToLiftToStrike.class.getMethod(name, types).invoke(lift, numbers)).longValue();
    }

    public static void main(String[] args) throws IOException, ReflectiveOperationException {
        String readme = Files.readString(Path.of("README.md"));
        String example = example(readme);
        ToLiftToStrike lift = toldTheText(example);
        int calls = 0;
        for (Matcher call = CALL.matcher(example); call.find(); calls++) {
            long got = answer(lift, call.group(1), call.group(2));
            due(got == Long.parseLong(call.group(3)), call.group() + "but it answered " + got);
        }
        due(calls == example.split("; +// ").length - 1 && calls > 0, "calls of the example that were not made");
        for (Method method : ToLiftToStrike.class.getDeclaredMethods()) {
            boolean shown = Modifier.isPublic(method.getModifiers());
            due(!shown || readme.contains("`" + method.getName() + "`"), "README.md leaves out " + method.getName());
        }
        System.out.println(wrong == 0 ? "README.md tells what is so" : wrong + " faults in README.md");
        if (wrong != 0) System.exit(1);
    }
}

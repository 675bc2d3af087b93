import java.io.IOException;
import java.lang.reflect.Method;
import java.lang.reflect.Modifier;
import java.nio.file.Files;
import java.nio.file.Path;
import java.util.regex.Matcher;
import java.util.regex.Pattern;

/** What README.md tells of the class is so; run from the project's root. */
public final class ReadmeTest {
    private static final Pattern CALL = Pattern.compile("town\\.(\\w+)\\((.*?)\\);\\s*// (-?\\d+|true|false)\\b.*");
    private static final Pattern EXAMPLE = Pattern.compile("\\| (town|law) \\|.*\\| `(.*)` \\|");
    private static final int CALLS = 20;

    public static void main(String[] args) throws IOException, ReflectiveOperationException {
        String readme = Files.readString(Path.of("README.md"));
        runOfCalls(readme);
        exampleTexts(readme);
        everyCallIsNamed(readme);
        Check.finish();
    }

    private static void runOfCalls(String readme) throws ReflectiveOperationException {
        HangmanMayor town = new HangmanMayor();
        int calls = 0;
        for (String line : readme.lines().filter(l -> l.startsWith("town.")).toList()) {
            Matcher call = CALL.matcher(line);
            Check.due("a call and its answer: " + line, call.matches(), true);
            String[] told = call.group(2).isEmpty() ? new String[0] : call.group(2).split(", ");
            Integer[] numbers = new Integer[told.length];
            for (int i = 0; i < told.length; i++) {
                numbers[i] = Integer.decode(told[i]);
            }
            Object answer = methodOf(call.group(1)).invoke(town, (Object[]) numbers);
            Check.due(line + " answered " + answer, String.valueOf(answer).equals(call.group(3)), true);
            calls++;
        }
        Check.due("there are some calls", calls > CALLS, true);
    }

    private static Method methodOf(String name) {
        for (Method method : HangmanMayor.class.getDeclaredMethods()) {
            if (method.getName().equals(name)) {
                return method;
            }
        }
        throw new IllegalArgumentException("no such call: " + name);
    }

    private static void exampleTexts(String readme) {
        int examples = 0;
        for (String line : readme.lines().toList()) {
            Matcher example = EXAMPLE.matcher(line);
            if (example.matches()) {
                int sort = example.group(1).equals("town") ? 0 : 1;
                Check.due("fault of " + example.group(2), Check.fault(sort, example.group(2)), HangmanMayor.NONE);
                examples++;
            }
        }
        Check.due("a town and a law", examples, 2);
    }

    private static void everyCallIsNamed(String readme) {
        for (Method method : HangmanMayor.class.getDeclaredMethods()) {
            if (Modifier.isPublic(method.getModifiers())) {
                String name = "`" + method.getName() + "`";
                Check.due(name + " is named", readme.contains(name), true);
            }
        }
    }
}

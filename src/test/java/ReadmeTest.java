import java.io.IOException;
import java.lang.reflect.Method;
import java.lang.reflect.Modifier;
import java.nio.file.Files;
import java.nio.file.Path;
import java.util.Arrays;
import java.util.regex.Matcher;
import java.util.regex.Pattern;

/** The run of calls that README.md shows: each call must return the number behind it. */
public final class ReadmeTest {
    private static final Pattern TEXT = Pattern.compile("\"([^\"]*)\"\\.toCharArray");
    private static final Pattern CALL =
            Pattern.compile("charger\\.(\\w+)\\(([^)]*)\\); *// (-?\\d+):.*");

    public static void main(String[] args) throws IOException, ReflectiveOperationException {
        String readme = Files.readString(Path.of("README.md"));
        int begin = readme.indexOf("```java");
        int end = readme.indexOf("```", begin + 1);
        Check.holds("there is a run", begin >= 0 && end > begin);
        ChargeStages charger = new ChargeStages();
        int calls = 0;
        for (String line : readme.substring(Math.max(0, begin), Math.max(0, end)).split("\n")) {
            Matcher text = TEXT.matcher(line);
            if (text.find()) {
                Check.typeText(charger, text.group(1));
            }
            Matcher call = CALL.matcher(line);
            if (call.matches()) {
                Check.due(line, answer(charger, call.group(1), call.group(2)),
                        Integer.parseInt(call.group(3)));
                calls++;
            }
        }
        Check.due("calls with a number", calls, 22);
        everyCallIsNamed(readme);
        Check.finish();
    }

    private static int answer(ChargeStages charger, String name, String numbers)
            throws ReflectiveOperationException {
        Object[] arguments = numbers.isEmpty() ? new Object[0]
                : Arrays.stream(numbers.split(", ")).map(Integer::valueOf).toArray();
        Class<?>[] types = new Class<?>[arguments.length];
        Arrays.fill(types, int.class);
        return (int) ChargeStages.class.getMethod(name, types).invoke(charger, arguments);
    }

    private static void everyCallIsNamed(String readme) {
        for (Method method : ChargeStages.class.getDeclaredMethods()) {
            boolean isNamed = Pattern.compile("`" + method.getName() + "\\b").matcher(readme).find();
            Check.holds(method.getName() + " is named", isNamed
                    || Modifier.isPrivate(method.getModifiers()));
        }
    }
}

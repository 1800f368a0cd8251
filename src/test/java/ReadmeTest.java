import java.io.IOException;
import java.lang.reflect.Method;
import java.nio.file.Files;
import java.nio.file.Path;
import java.util.regex.Matcher;
import java.util.regex.Pattern;

/** The example of README.md: each call answers the number that its comment begins with. */
public final class ReadmeTest {
    private static final int LEAST_CALLS = 10;
    private static final Pattern CALL = Pattern.compile("(?m)^beliefs\\.(\\w+)\\((.*?)\\); +// (-?\\d+):.*$");

    public static void main(String[] args) throws IOException, ReflectiveOperationException {
        Due due = new Due();
        due.about("README.md");
        String example = Files.readString(Path.of("README.md")).replaceAll("(?s)^.*?```java\n(.*?)```.*$", "$1");
        SplitBeliefs beliefs = new SplitBeliefs();
        Matcher calls = CALL.matcher(example);
        int seen = 0;
        while (calls.find()) {
            seen++;
            due.is(calls.group(1) + "(" + calls.group(2) + ")", answer(beliefs, calls.group(1), calls.group(2)),
                    Long.parseLong(calls.group(3)));
        }
        due.is("enough calls", Math.min(seen, LEAST_CALLS), LEAST_CALLS);
        due.is("lines that are no call with its answer", example.lines().count() - seen, 1);
        due.end();
    }

    private static int answer(SplitBeliefs beliefs, String name, String told) throws ReflectiveOperationException {
        for (Method method : SplitBeliefs.class.getMethods()) {
            if (method.getName().equals(name) && method.getDeclaringClass() == SplitBeliefs.class) {
                String[] numbers = told.isEmpty() ? new String[0] : told.split(", ");
                Object[] arguments = new Object[numbers.length];
                for (int i = 0; i < numbers.length; i++) {
                    long number = Long.decode(numbers[i].replace("L", ""));
                    arguments[i] = method.getParameterTypes()[i] == long.class ? (Object) number : (Object) (int) number;
                }
                return (int) method.invoke(beliefs, arguments);
            }
        }
        throw new NoSuchMethodException(name);
    }
}

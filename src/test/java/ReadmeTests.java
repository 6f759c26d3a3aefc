import java.lang.reflect.InvocationTargetException;
import java.lang.reflect.Method;
import java.util.regex.Matcher;
import java.util.regex.Pattern;

/** Makes the calls of README.md's examples on one flock, and compares what they answer with what stands there. */
final class ReadmeTests {
    private static final Pattern EXAMPLE = Pattern.compile("(?s)```java\n(.*?)```");
    private static final Pattern CALL = Pattern.compile("flock\\.(\\w+)\\(([0-9, ]*)\\); +// (.+)");
    private static final Pattern TYPING = Pattern.compile("for \\(char sign : \"([^\"]*)\"\\.toCharArray\\(\\)\\) \\{");
    /** What else may stand in an example; the typing is done where it begins. */
    private static final Pattern REST = Pattern.compile("BasketFlock flock = new BasketFlock\\(\\);"
            + "|    flock\\.append\\(sign\\);|\\}");

    private ReadmeTests() {
    }

    static void run(String readme) {
        BasketFlock flock = new BasketFlock();
        int calls = 0;
        Matcher examples = EXAMPLE.matcher(readme);
        while (examples.find()) {
            for (String line : examples.group(1).split("\n")) {
                calls += follow(flock, line) ? 1 : 0;
            }
        }
        Check.holds("README.md has no example", calls > 0);
    }

    /** Whether the line held a call with an answer. */
    private static boolean follow(BasketFlock flock, String line) {
        Matcher call = CALL.matcher(line);
        Matcher typing = TYPING.matcher(line);
        if (call.matches()) {
            String got = answer(flock, call.group(1), call.group(2));
            Check.holds("README.md: " + line + " answered " + got, got.equals(call.group(3)));
            return true;
        }
        if (typing.matches()) {
            Flocks.type(flock, typing.group(1));
        } else {
            Check.holds("README.md: a line that is not followed: " + line, REST.matcher(line).matches());
        }
        return false;
    }

    private static String answer(BasketFlock flock, String name, String written) {
        String[] numbers = written.isEmpty() ? new String[0] : written.split(", ");
        Class<?>[] types = new Class<?>[numbers.length];
        Object[] arguments = new Object[numbers.length];
        for (int i = 0; i < numbers.length; i++) {
            types[i] = int.class;
            arguments[i] = Integer.valueOf(numbers[i]);
        }
        try {
            Method method = BasketFlock.class.getMethod(name, types);
            return String.valueOf(method.invoke(flock, arguments));
        } catch (InvocationTargetException thrown) {
            return "throws " + thrown.getCause().getClass().getSimpleName();
        } catch (ReflectiveOperationException missing) {
            return "no answer, for there is no such call";
        }
    }
}

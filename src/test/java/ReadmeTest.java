import java.io.IOException;
import java.lang.reflect.InvocationTargetException;
import java.lang.reflect.Method;
import java.nio.file.Files;
import java.nio.file.Path;
import java.util.regex.Matcher;
import java.util.regex.Pattern;

/**
 * Makes the calls that README.md shows, in their order on one object, and holds each to the first
 * word behind it: a number, true, false, or "throws" and an exception. It runs in the project's
 * folder.
 */
public final class ReadmeTest {
    private static final String MADE = "OrganBuilder organ = new OrganBuilder();";
    private static final Pattern CALL = Pattern.compile("organ\\.(\\w+)\\(([^)]*)\\); +// (.*)");
    private static final Pattern THROWN = Pattern.compile("throws (\\w+).*");
    private static final Pattern ANSWER = Pattern.compile("(true|false|-?\\d+)\\b.*");
    private static final Checks CHECKS = new Checks();

    private OrganBuilder organ;

    public static void main(String[] args) throws IOException, ReflectiveOperationException {
        ReadmeTest test = new ReadmeTest();
        boolean isJava = false;
        for (String line : Files.readAllLines(Path.of("README.md"))) {
            if (line.startsWith("```")) {
                isJava = line.equals("```java");
            } else if (isJava && !line.isBlank()) {
                test.holdTo(line);
            }
        }
        CHECKS.end("ReadmeTest");
    }

    private void holdTo(String line) throws ReflectiveOperationException {
        if (line.equals(MADE)) {
            organ = new OrganBuilder();
            return;
        }
        Matcher call = CALL.matcher(line);
        CHECKS.yes("a call on the organ and what it answers: " + line, call.matches() && organ != null);
        if (call.matches() && organ != null) {
            Method method = methodOf(call.group(1));
            String got = answerOf(method, argumentsOf(call.group(2)));
            if (method.getReturnType() != void.class || !got.isEmpty()) {
                CHECKS.yes("it is " + got + ": " + line, got.equals(dueOf(call.group(3))));
            }
        }
    }

    private static Method methodOf(String name) throws NoSuchMethodException {
        for (Method method : OrganBuilder.class.getMethods()) {
            if (method.getName().equals(name)) {
                return method;
            }
        }
        throw new NoSuchMethodException(name);
    }

    private static Object[] argumentsOf(String list) {
        String[] words = list.isEmpty() ? new String[0] : list.split(", ");
        Object[] arguments = new Object[words.length];
        for (int i = 0; i < words.length; i++) {
            boolean isNumber = words[i].matches("-?\\d+");
            arguments[i] = isNumber ? (Object) Integer.valueOf(words[i]) : Boolean.valueOf(words[i]);
        }
        return arguments;
    }

    /** The answer, or the name of the exception that is thrown, or nothing if the call has no answer. */
    private String answerOf(Method method, Object[] arguments) throws IllegalAccessException {
        try {
            Object answer = method.invoke(organ, arguments);
            return answer == null ? "" : answer.toString();
        } catch (InvocationTargetException thrown) {
            return thrown.getCause().getClass().getSimpleName();
        }
    }

    private static String dueOf(String comment) {
        Matcher thrown = THROWN.matcher(comment);
        if (thrown.matches()) {
            return thrown.group(1);
        }
        Matcher answer = ANSWER.matcher(comment);
        return answer.matches() ? answer.group(1) : "no answer is told";
    }
}

import java.io.IOException;
import java.lang.reflect.Method;
import java.lang.reflect.Modifier;
import java.nio.file.Files;
import java.nio.file.Path;
import java.util.regex.Matcher;
import java.util.regex.Pattern;

/** What README.md says of the class holds: its lines of code are run, and no call is left out. */
public final class ReadmeTest {
    private static final Path README = Path.of("README.md");
    private static final Pattern CODE = Pattern.compile("```java\n(.*?)```", Pattern.DOTALL);
    private static final Pattern LINE = Pattern.compile("x\\.(\\w+)\\(([-0-9, ]*)\\); +// (-?\\d+)(:.*)?");

    public static void main(String[] args) throws IOException, ReflectiveOperationException {
        String readme = Files.readString(README);
        runLines(readme);
        everyCallIsTold(readme);
        Check.end();
    }

    private static void runLines(String readme) throws ReflectiveOperationException {
        CopyInserts x = null;
        Matcher code = CODE.matcher(readme);
        int blocks = 0;
        for (; code.find(); blocks++) {
            for (String line : code.group(1).split("\n")) {
                if (line.equals("CopyInserts x = new CopyInserts();")) {
                    x = new CopyInserts();
                } else {
                    runLine(x, line);
                }
            }
        }
        Check.due("blocks of code", blocks, 3);
    }

    private static void runLine(CopyInserts x, String line) throws ReflectiveOperationException {
        Matcher call = LINE.matcher(line);
        boolean isCall = call.matches();
        Check.due("a call with its answer: " + line, isCall ? 1 : 0, 1);
        if (isCall) {
            Check.due(line, answer(x, call.group(1), call.group(2)), Integer.parseInt(call.group(3)));
        }
    }

    private static int answer(CopyInserts x, String name, String told) throws ReflectiveOperationException {
        String[] numbers = told.isBlank() ? new String[0] : told.split(", ");
        Class<?>[] types = new Class<?>[numbers.length];
        Object[] values = new Object[numbers.length];
        for (int i = 0; i < numbers.length; i++) {
            types[i] = int.class;
            values[i] = Integer.parseInt(numbers[i]);
        }
        return (int) CopyInserts.class.getMethod(name, types).invoke(x, values);
    }

    private static void everyCallIsTold(String readme) {
        String rows = readme.substring(readme.indexOf("All calls:"), readme.indexOf("## How it is held"));
        for (Method method : CopyInserts.class.getDeclaredMethods()) {
            boolean told = rows.contains("`" + method.getName() + "(");
            Check.due(method.getName() + " is told of", told || Modifier.isPrivate(method.getModifiers()) ? 1 : 0, 1);
        }
        for (String refusal : new String[] {"NONE", "BAD", "FULL", "OTHER", "FAULT"}) {
            Check.due(refusal + " is told of", rows.contains("`" + refusal + "`") ? 1 : 0, 1);
        }
    }
}

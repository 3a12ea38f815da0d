import java.io.IOException;
import java.lang.reflect.InvocationTargetException;
import java.lang.reflect.Method;
import java.nio.file.Files;
import java.nio.file.Path;
import java.util.regex.Matcher;
import java.util.regex.Pattern;

/** The calls on README.md's page, in their order, each with the answer that stands behind it there. */
public final class ReadmeTest {
    private static final Dues DUES = new Dues("ReadmeTest");
    private static final Pattern BLOCK = Pattern.compile("(?s)```java\n(.*?)```");
    private static final Pattern CALL = Pattern.compile("town\\.(\\w+)\\(([^)]*)\\); *// (-?\\d+).*");
    private static final Pattern ERROR = Pattern.compile("\\| (\\d) \\| (-\\d+) \\| [A-Z]+ \\|.*");
    private static final String START = "HandTown town = new HandTown();";

    private ReadmeTest() {
    }

    public static void main(String[] args) throws IOException, ReflectiveOperationException {
        String page = Files.readString(Path.of("README.md"));
        HandTown town = new HandTown();
        int calls = 0;
        Matcher block = BLOCK.matcher(page);
        while (block.find()) {
            for (String line : block.group(1).split("\n")) {
                if (line.equals(START)) {
                    town = new HandTown();
                } else {
                    ask(town, line);
                    calls++;
                }
            }
        }
        DUES.due("README.md shows calls", calls > 0 ? 1 : 0, 1);
        errors(page);
        DUES.end();
    }

    private static void ask(HandTown town, String line) throws ReflectiveOperationException {
        Matcher call = CALL.matcher(line);
        if (!call.matches()) {
            DUES.due("README.md has a call and its answer: " + line, 0, 1);
            return;
        }
        DUES.due("README.md: " + line, answer(town, call.group(1), call.group(2)), Long.parseLong(call.group(3)));
    }

    private static int answer(HandTown town, String name, String arguments)
            throws InvocationTargetException, IllegalAccessException {
        String[] words = arguments.isEmpty() ? new String[0] : arguments.split(", ");
        for (Method method : HandTown.class.getMethods()) {
            if (method.getName().equals(name) && method.getParameterCount() == words.length) {
                Object[] numbers = new Object[words.length];
                for (int i = 0; i < words.length; i++) {
                    boolean isLong = method.getParameterTypes()[i] == long.class;
                    numbers[i] = isLong ? (Object) Long.decode(words[i]) : Integer.decode(words[i]);
                }
                return (int) method.invoke(town, numbers);
            }
        }
        throw new IllegalArgumentException("no such call: " + name);
    }

    private static void errors(String page) {
        int k = 0;
        for (String line : page.split("\n")) {
            Matcher error = ERROR.matcher(line);
            if (error.matches()) {
                k++;
                DUES.due("README.md: " + line, Long.parseLong(error.group(1)), k);
                DUES.due("README.md: " + line, Long.parseLong(error.group(2)), Dues.LOW - k);
            }
        }
        DUES.due("README.md tells all errors", k, 6);
    }
}

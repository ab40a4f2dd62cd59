import java.io.IOException;
import java.lang.reflect.Method;
import java.nio.file.Files;
import java.nio.file.Path;
import java.util.regex.Matcher;
import java.util.regex.Pattern;

/** The calls that README.md shows answer what it says behind each of them. */
public final class ReadmeTest {
    private static final Path README = Path.of("README.md");
    private static final Pattern BLOCK = Pattern.compile("(?s)```java\n(.*?)```");
    private static final Pattern CALL = Pattern.compile("x\\.(\\w+)\\(([^)]*)\\); +// (-?\\d+):");

    public static void main(String[] args) throws IOException, ReflectiveOperationException {
        int calls = 0;
        Matcher block = BLOCK.matcher(Files.readString(README));
        // One city goes through all blocks, as one who reads them would take it.
        RubbleCity x = new RubbleCity();
        while (block.find()) {
            for (String line : block.group(1).split("\n")) {
                Matcher call = CALL.matcher(line);
                boolean isCall = call.lookingAt();
                Check.due(line + ", read", isCall || !line.startsWith("x.") ? 1 : 0, 1);
                if (isCall) {
                    Check.due(line, answer(x, call.group(1), call.group(2)), Long.parseLong(call.group(3)));
                    calls++;
                }
            }
        }
        Check.due("calls " + calls, calls >= 20 ? 1 : 0, 1);
        Check.end();
    }

    private static long answer(RubbleCity x, String name, String told) throws ReflectiveOperationException {
        String[] texts = told.isEmpty() ? new String[0] : told.split(", ");
        for (Method method : RubbleCity.class.getDeclaredMethods()) {
            if (method.getName().equals(name)) {
                Object[] numbers = new Object[texts.length];
                for (int i = 0; i < texts.length; i++) {
                    long number = Long.decode(texts[i].replace("L", ""));
                    numbers[i] = method.getParameterTypes()[i] == long.class ? (Object) number : (Object) (int) number;
                }
                return ((Number) method.invoke(x, numbers)).longValue();
            }
        }
        Check.due("a call " + name, 0, 1);
        return 0;
    }
}

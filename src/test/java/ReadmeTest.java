import java.io.IOException;
import java.lang.reflect.Method;
import java.nio.file.Files;
import java.nio.file.Path;
import java.util.HashSet;
import java.util.Set;
import java.util.regex.Matcher;
import java.util.regex.Pattern;

/** Makes the calls that README.md shows, and compares each answer with the one written behind the call. */
final class ReadmeTest {
    private static final Pattern CALL = Pattern.compile("x\\.(\\w+)\\((.*?)\\);\\s*// ([^:]+)(:.*)?");
    private static final Due DUE = new Due("ReadmeTest");

    public static void main(String[] args) throws IOException, ReflectiveOperationException {
        BroadSheet x = new BroadSheet();
        Set<String> shown = new HashSet<>();
        for (String line : Files.readAllLines(Path.of("README.md"))) {
            if (line.startsWith("x.")) {
                Matcher call = CALL.matcher(line);
                DUE.holds("no answer is told in: " + line, call.matches());
                if (call.matches()) {
                    shown.add(call.group(1));
                    DUE.is(line, made(x, call.group(1), call.group(2)), answer(call.group(3)));
                }
            }
        }
        for (Method m : BroadSheet.class.getMethods()) {
            if (m.getDeclaringClass() == BroadSheet.class) {
                DUE.holds("README.md does not show " + m.getName(), shown.contains(m.getName()));
            }
        }
        DUE.end();
    }

    private static int made(BroadSheet x, String name, String numbers) throws ReflectiveOperationException {
        String[] texts = numbers.isEmpty() ? new String[0] : numbers.split(", ");
        Class<?>[] types = new Class<?>[texts.length];
        Object[] values = new Object[texts.length];
        for (int n = 0; n < texts.length; n++) {
            types[n] = int.class;
            values[n] = Integer.valueOf(texts[n]);
        }
        return (int) BroadSheet.class.getMethod(name, types).invoke(x, values);
    }

    /** A number, or constants of the face put together. */
    private static int answer(String text) throws ReflectiveOperationException {
        int all = 0;
        for (String part : text.trim().split(" \\+ ")) {
            all += part.matches("-?\\d+") ? Integer.parseInt(part) : BroadSheet.class.getField(part).getInt(null);
        }
        return all;
    }
}

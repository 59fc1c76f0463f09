import java.io.IOException;
import java.lang.reflect.Method;
import java.lang.reflect.Modifier;
import java.nio.file.Files;
import java.nio.file.Path;
import java.util.regex.Matcher;
import java.util.regex.Pattern;

/** What README.md says of the class holds: its example answers as written there, and it tells every call. */
public final class ReadmeTest extends Dues {
    private static final Pattern LINE = Pattern.compile("x\\.(\\w+)\\(([-0-9, ]*)\\); *// (-?\\d+)");

    public static void main(String[] args) throws IOException {
        String readme = Files.readString(Path.of("README.md"));
        example(readme);
        everyCallIsTold(readme);
        end();
    }

    private static void example(String readme) {
        promise("README.md, \"Use\"");
        Matcher block = Pattern.compile("(?s)```java\n(.*?)```").matcher(readme);
        if (!block.find()) {
            fault("there is no example");
            return;
        }
        InningsHouse x = new InningsHouse();
        for (String line : block.group(1).split("\n")) {
            Matcher call = LINE.matcher(line);
            if (call.matches()) {
                answers(Integer.parseInt(call.group(3)), x, call.group(1), numbers(call.group(2)));
            } else if (line.startsWith("x.")) {
                fault("no answer stands behind " + line);
            }
        }
    }

    private static int[] numbers(String told) {
        return Pattern.compile("-?\\d+").matcher(told).results().mapToInt(m -> Integer.parseInt(m.group())).toArray();
    }

    private static void everyCallIsTold(String readme) {
        promise("README.md, \"The calls\"");
        for (Method m : InningsHouse.class.getDeclaredMethods()) {
            if (!Modifier.isPublic(m.getModifiers())) {
                continue;
            }
            Matcher row = Pattern.compile("\n\\| `" + m.getName() + "\\(([^)]*)\\)` \\|").matcher(readme);
            if (!row.find()) {
                fault(m.getName() + "() is not told");
            } else {
                int told = row.group(1).isEmpty() ? 0 : row.group(1).split(",").length;
                due(m.getName() + "(): how many numbers the README tells", told, m.getParameterCount());
            }
        }
    }
}

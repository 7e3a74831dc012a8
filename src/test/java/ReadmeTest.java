import java.io.IOException;
import java.lang.reflect.InvocationTargetException;
import java.lang.reflect.Method;
import java.nio.file.Files;
import java.nio.file.Path;
import java.util.ArrayList;
import java.util.List;
import java.util.regex.Matcher;
import java.util.regex.Pattern;

/** The example of README.md: each call answers what is written behind it, and each call of the face is named there. */
public final class ReadmeTest {
    private static final Pattern CALL = Pattern.compile("s\\.(\\w+)\\((.*?)\\);\\s*// (\\w+).*");

    public static void main(String[] arguments) throws IOException {
        List<String> lines = Files.readAllLines(Path.of("README.md"));
        Syzygium s = new Syzygium();
        Calls.test("the example of README.md", () -> {
            int calls = 0;
            for (String line : lines) {
                Matcher call = CALL.matcher(line);
                if (call.matches()) {
                    calls++;
                    Calls.due(line, called(s, call.group(1), call.group(2)), call.group(3));
                }
            }
            Calls.due("it has calls", calls > 20, true);
        });
        Calls.test("each call is named", () -> {
            String table = String.join("\n", lines.stream().filter(line -> line.startsWith("|")).toList());
            for (Method method : Syzygium.class.getMethods()) {
                if (method.getDeclaringClass() == Syzygium.class) {
                    Calls.due(method.getName(), table.contains("`" + method.getName() + "`"), true);
                }
            }
        });
        Calls.end();
    }

    private static Object called(Syzygium s, String name, String given) {
        List<Object> values = new ArrayList<>();
        for (String value : given.isEmpty() ? new String[0] : given.split(", ")) {
            values.add(value.startsWith("'") ? (Object) value.charAt(1) : (Object) Integer.valueOf(value));
        }
        for (Method method : Syzygium.class.getMethods()) {
            if (method.getName().equals(name) && method.getParameterCount() == values.size()) {
                try {
                    return method.invoke(s, values.toArray());
                } catch (IllegalAccessException | InvocationTargetException e) {
                    return e.toString();
                }
            }
        }
        return "no such call";
    }
}

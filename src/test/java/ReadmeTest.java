import java.io.IOException;
import java.lang.reflect.Method;
import java.lang.reflect.Modifier;
import java.nio.file.Files;
import java.nio.file.Path;
import java.util.regex.Matcher;
import java.util.regex.Pattern;

/** What README.md tells of the calls: its example is carried out, and no call is left out. */
final class ReadmeTest {
    private static final Pattern TEXT = Pattern.compile("String text = \"([^\"]*)\"");
    private static final Pattern CALL = Pattern.compile("(?m)^x\\.(\\w+)\\(([-\\d, ]*)\\);\\s+// (-?\\d+): ");

    public static void main(String[] args) throws IOException, ReflectiveOperationException {
        String page = Files.readString(Path.of("README.md"));
        example(page);
        everyCallIsTold(page);
        Due.end();
    }

    private static void example(String page) throws ReflectiveOperationException {
        Matcher text = TEXT.matcher(page);
        Due.due("README.md tells a text", text.find() ? 1 : 0, 1);
        RicherChange x = new RicherChange();
        Due.write(x, 0, 0, text.group(1));
        Due.due("city", x.city(0, 0, 0, text.group(1).length()), 3);
        int calls = 0;
        for (Matcher call = CALL.matcher(page); call.find(); calls++) {
            Due.due(call.group(1) + "(" + call.group(2) + ")", answer(x, call.group(1), call.group(2)),
                Long.parseLong(call.group(3)));
        }
        Due.due("README.md has calls with answers", calls > 10 ? 1 : 0, 1);
    }

    private static long answer(RicherChange x, String name, String told) throws ReflectiveOperationException {
        String[] parts = told.isEmpty() ? new String[0] : told.split(", ");
        Class<?>[] types = new Class<?>[parts.length];
        Object[] numbers = new Object[parts.length];
        for (int k = 0; k < parts.length; k++) {
            types[k] = int.class;
            numbers[k] = Integer.parseInt(parts[k]);
        }
        return ((Number) RicherChange.class.getMethod(name, types).invoke(x, numbers)).longValue();
    }

    private static void everyCallIsTold(String page) {
        for (Method m : RicherChange.class.getDeclaredMethods()) {
            if (Modifier.isPublic(m.getModifiers())) {
                Due.due(m.getName() + " stands in README.md", page.contains("`" + m.getName() + "(") ? 1 : 0, 1);
            }
        }
    }
}

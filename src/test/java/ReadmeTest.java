import java.io.IOException;
import java.lang.reflect.Method;
import java.lang.reflect.Modifier;
import java.nio.file.Files;
import java.nio.file.Path;
import java.util.regex.Matcher;
import java.util.regex.Pattern;

/** Whether the calls that README.md shows answer what it says behind them. */
final class ReadmeTest {
    private static final Path README = Path.of("README.md");
    private static final int LEAST_CALLS = 20;
    private static final Pattern CALL = Pattern.compile("lake\\.(\\w+)\\(([-0-9, ]*)\\); +// (-?\\d+)\\b.*");
    private static final Pattern NONE_OR_ERROR = Pattern.compile("lake\\.(\\w+)\\(([-0-9, ]*)\\); +// ([A-Z_]+)\\b.*");
    private static final Pattern WRITE = Pattern.compile("write\\(lake, \"([^\"]*)\"\\);");

    private final Due due = new Due("ReadmeTest");
    private RampPermits lake;
    private int calls;

    public static void main(String[] args) throws IOException, ReflectiveOperationException {
        ReadmeTest test = new ReadmeTest();
        boolean isCode = false;
        for (String line : Files.readAllLines(README)) {
            if (line.startsWith("```")) {
                isCode = line.equals("```java");
            } else if (isCode) {
                test.line(line);
            }
        }
        test.due.isTrue("README.md shows at least " + LEAST_CALLS + " calls", test.calls >= LEAST_CALLS);
        test.everyMethodIsNamed();
        test.due.finish();
    }

    private void line(String line) throws ReflectiveOperationException {
        due.part(line);
        Matcher call = CALL.matcher(line);
        Matcher error = NONE_OR_ERROR.matcher(line);
        Matcher write = WRITE.matcher(line);
        if (line.equals("RampPermits lake = new RampPermits();")) {
            lake = new RampPermits();
        } else if (write.matches()) {
            Calls.write(lake, write.group(1));
        } else if (call.matches()) {
            is(call, Integer.parseInt(call.group(3)));
        } else if (error.matches()) {
            is(error, RampPermits.class.getField(error.group(3)).getInt(null));
        } else {
            due.isTrue("a line that is understood", !line.startsWith("lake.") && !line.startsWith("write("));
        }
    }

    private void is(Matcher call, int want) throws ReflectiveOperationException {
        String[] words = call.group(2).isEmpty() ? new String[0] : call.group(2).split(", ");
        Class<?>[] types = new Class<?>[words.length];
        Object[] arguments = new Object[words.length];
        for (int i = 0; i < words.length; i++) {
            types[i] = int.class;
            arguments[i] = Integer.valueOf(words[i]);
        }
        Method method = RampPermits.class.getMethod(call.group(1), types);
        due.is("it", (Integer) method.invoke(lake, arguments), want);
        calls++;
    }

    private void everyMethodIsNamed() throws IOException {
        String text = Files.readString(README);
        due.part("the methods");
        for (Method method : RampPermits.class.getDeclaredMethods()) {
            if (Modifier.isPublic(method.getModifiers())) {
                due.isTrue(method.getName() + "() in README.md", text.contains(method.getName() + "("));
            }
        }
    }
}

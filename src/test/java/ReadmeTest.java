import java.io.IOException;
import java.lang.reflect.Method;
import java.lang.reflect.Modifier;
import java.nio.file.Files;
import java.nio.file.Path;
import java.util.regex.Matcher;
import java.util.regex.Pattern;

/** README.md is true: its examples answer what stands behind them, and each call of the face is named there. */
public final class ReadmeTest {
    private static final Path README = Path.of("README.md");
    /** "x.name(numbers); // what it is: answer" */
    private static final Pattern CALL = Pattern.compile("x\\.(\\w+)\\(([^)]*)\\); +// .*: (-?\\d+)");

    public static void main(String[] args) throws IOException, ReflectiveOperationException {
        String page = Files.readString(README);
        Check.holds("README.md is not empty", !page.isBlank());
        examples(page);
        calls(page);
        Check.holds("how the tests are run", page.contains(".ci/run"));
        Check.end("ReadmeTest");
    }

    private static void examples(String page) throws ReflectiveOperationException {
        Matcher block = Pattern.compile("```java\n(IceKeys x = .*?)```", Pattern.DOTALL).matcher(page);
        int blocks = 0;
        while (block.find()) {
            blocks++;
            IceKeys x = new IceKeys();
            String[] lines = block.group(1).split("\n");
            for (int i = 1; i < lines.length; i++) {
                Matcher call = CALL.matcher(lines[i]);
                boolean isCall = call.matches();
                Check.holds("README.md: a call and its answer: " + lines[i], isCall);
                if (isCall) {
                    Check.due("README.md: " + lines[i], answer(x, call.group(1), call.group(2)),
                        Integer.parseInt(call.group(3)));
                }
            }
        }
        Check.holds("README.md has examples", blocks > 0);
    }

    private static int answer(IceKeys x, String name, String numbers) throws ReflectiveOperationException {
        String[] parts = numbers.isEmpty() ? new String[0] : numbers.split(", ");
        for (Method method : IceKeys.class.getDeclaredMethods()) {
            if (method.getName().equals(name) && Modifier.isPublic(method.getModifiers())) {
                Object[] values = new Object[parts.length];
                for (int i = 0; i < parts.length; i++) {
                    long v = Long.decode(parts[i].replace("L", ""));
                    values[i] = method.getParameterTypes()[i] == long.class ? (Object) v : (Object) (int) v;
                }
                return (Integer) method.invoke(x, values);
            }
        }
        throw new NoSuchMethodException(name);
    }

    private static void calls(String page) {
        for (Method method : IceKeys.class.getDeclaredMethods()) {
            if (Modifier.isPublic(method.getModifiers())) {
                Check.holds("README.md names " + method.getName(), page.contains("`" + method.getName() + "`"));
            }
        }
    }
}

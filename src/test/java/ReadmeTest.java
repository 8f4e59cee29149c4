import java.lang.reflect.InvocationTargetException;
import java.lang.reflect.Method;
import java.nio.file.Files;
import java.nio.file.Path;
import java.util.regex.Matcher;
import java.util.regex.Pattern;

/** The calls in README.md answer what stands behind them there. */
public final class ReadmeTest {
    private static final Pattern CALL = Pattern.compile("loom\\.(\\w+)\\((.*)\\);\\s+// ([^:]+)(: .*)?");

    private final Check check = new Check("ReadmeTest");
    private NetLoom loom;

    public static void main(String[] args) throws Exception {
        ReadmeTest test = new ReadmeTest();
        boolean isCode = false;
        int calls = 0;
        for (String line : Files.readAllLines(Path.of("README.md"))) {
            if (line.startsWith("```")) {
                isCode = line.equals("```java");
            } else if (isCode) {
                test.tryLine(line);
                calls++;
            }
        }
        test.check.is("there are calls", calls > 0, true);
        test.check.end();
    }

    private void tryLine(String line) throws Exception {
        if (line.equals("NetLoom loom = new NetLoom();")) {
            loom = new NetLoom();
            return;
        }
        Matcher matcher = CALL.matcher(line);
        if (!matcher.matches()) {
            check.fail("no call with its answer: " + line);
            return;
        }
        String[] texts = matcher.group(2).isEmpty() ? new String[0] : matcher.group(2).split(", ");
        String answer = answer(matcher.group(1), texts);
        if (!answer.equals(matcher.group(3))) {
            check.fail(line + " answered " + answer);
        }
    }

    private String answer(String name, String[] texts) throws Exception {
        for (Method method : NetLoom.class.getMethods()) {
            if (method.getName().equals(name) && method.getParameterCount() == texts.length) {
                Object[] arguments = new Object[texts.length];
                for (int i = 0; i < texts.length; i++) {
                    boolean isBoolean = method.getParameterTypes()[i] == boolean.class;
                    arguments[i] = isBoolean ? (Object) Boolean.valueOf(texts[i]) : Integer.valueOf(texts[i]);
                }
                try {
                    return String.valueOf(method.invoke(loom, arguments));
                } catch (InvocationTargetException e) {
                    return e.getCause().getClass().getSimpleName();
                }
            }
        }
        return "nothing: there is no such call";
    }
}

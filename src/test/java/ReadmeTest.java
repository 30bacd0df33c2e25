import java.io.IOException;
import java.lang.reflect.Method;
import java.nio.file.Files;
import java.nio.file.Path;
import java.util.regex.Matcher;
import java.util.regex.Pattern;

/** Calls that README.md shows, one after the other on one object, answer what stands behind them. */
public final class ReadmeTest {
    private static final String CALL = "gossip.";
    /** The name, the arguments, and the answer up to a colon or the line's end. */
    private static final Pattern SHOWN = Pattern.compile("gossip\\.(\\w+)\\((.*)\\); +// ([^:]+)(:.*)?");

    public static void main(String[] args) throws IOException, ReflectiveOperationException {
        TreeGossip x = new TreeGossip();
        int calls = 0;
        for (String line : Files.readAllLines(Path.of("README.md"))) {
            if (line.startsWith(CALL)) {
                checkCall(x, line);
                calls++;
            }
        }
        Check.equal("README.md shows calls", calls > 0, true);
        Check.end();
    }

    private static void checkCall(TreeGossip x, String line) throws ReflectiveOperationException {
        Matcher shown = SHOWN.matcher(line);
        if (!shown.matches()) {
            Check.equal(line + " shows an answer", false, true);
            return;
        }
        Method method = methodOf(shown.group(1));
        Object answer = method.invoke(x, argumentsOf(method, shown.group(2)));
        Check.equal(line, String.valueOf(answer), shown.group(3));
    }

    private static Method methodOf(String name) throws NoSuchMethodException {
        for (Method method : TreeGossip.class.getMethods()) {
            if (method.getName().equals(name)) {
                return method;
            }
        }
        throw new NoSuchMethodException(name);
    }

    private static Object[] argumentsOf(Method method, String written) {
        Class<?>[] types = method.getParameterTypes();
        String[] words = types.length == 0 ? new String[0] : written.split(", ");
        Object[] arguments = new Object[words.length];
        for (int i = 0; i < words.length; i++) {
            long number = Long.decode(words[i].replace("L", ""));
            // A choice by ?: would make both numbers longs.
            if (types[i] == int.class) {
                arguments[i] = (int) number;
            } else {
                arguments[i] = number;
            }
        }
        return arguments;
    }
}

import java.io.IOException;
import java.lang.reflect.Method;
import java.nio.file.Files;
import java.nio.file.Path;
import java.util.HashSet;
import java.util.Set;
import java.util.regex.Matcher;
import java.util.regex.Pattern;

/** README.md shows calls with their answers: they are made here, as they stand there. */
public final class ReadmeTest {
    private static final Pattern CALL = Pattern.compile("x\\.(\\w+)\\((.*)\\);\\s+// (-?\\d+)(:.*)?");
    private static final Due due = new Due();

    public static void main(String[] args) throws IOException, ReflectiveOperationException {
        ThreeMagnets x = new ThreeMagnets();
        Set<String> shown = new HashSet<>();
        for (String line : Files.readAllLines(Path.of("README.md"))) {
            if (line.startsWith("x.")) {
                Matcher call = CALL.matcher(line);
                due.isTrue("a call and its answer: " + line, call.matches());
                if (call.matches()) {
                    shown.add(call.group(1));
                    due.is(line, answer(x, call.group(1), call.group(2)), Long.parseLong(call.group(3)));
                }
            }
        }
        due.isTrue("calls of each part are shown", shown.size() >= 20);
        due.end("ReadmeTest");
    }

    private static int answer(ThreeMagnets x, String name, String given) throws ReflectiveOperationException {
        String[] words = given.isEmpty() ? new String[0] : given.split(", ");
        for (Method method : ThreeMagnets.class.getMethods()) {
            if (method.getName().equals(name) && method.getParameterCount() == words.length) {
                Object[] arguments = new Object[words.length];
                for (int k = 0; k < words.length; k++) {
                    boolean isLong = method.getParameterTypes()[k] == long.class;
                    Object number = isLong ? (Object) Long.decode(words[k].replace("L", "")) : (Object) Integer.decode(words[k]);
                    arguments[k] = number;
                }
                return (Integer) method.invoke(x, arguments);
            }
        }
        due.isTrue("there is a call " + name, false);
        return 0;
    }
}

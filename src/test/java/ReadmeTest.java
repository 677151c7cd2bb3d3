import java.io.IOException;
import java.lang.reflect.Method;
import java.nio.file.Files;
import java.nio.file.Path;
import java.util.regex.Matcher;
import java.util.regex.Pattern;

/** The calls that README.md shows, one after the other on one object, and the answers that it tells of them. */
public final class ReadmeTest {
    private static final Pattern CALL = Pattern.compile("x\\.(\\w+)\\((.*)\\);\\s+// (\".*\"|[^:]+)(:.*)?");

    public static void main(String[] args) throws IOException, ReflectiveOperationException {
        Steadygrowth x = new Steadygrowth();
        int shown = 0;
        for (String line : Files.readAllLines(Path.of("README.md"))) {
            Matcher call = CALL.matcher(line);
            if (call.matches()) {
                Due.is("README: " + line, answer(x, call.group(1), call.group(2).split(", ")), call.group(3));
                shown++;
            }
        }
        Due.isTrue("README.md shows calls", shown >= 15);
        Due.finish();
    }

    private static String answer(Steadygrowth x, String name, String[] words) throws ReflectiveOperationException {
        for (Method method : Steadygrowth.class.getMethods()) {
            if (method.getName().equals(name)) {
                Object told = method.invoke(x, arguments(words));
                boolean isNone = told.equals(Integer.MIN_VALUE);
                return told instanceof String ? "\"" + told + "\"" : isNone ? "NONE" : told.toString();
            }
        }
        return "no such call";
    }

    private static Object[] arguments(String[] words) {
        Object[] found = new Object[words.length];
        for (int i = 0; i < words.length; i++) {
            boolean isFlag = words[i].equals("true") || words[i].equals("false");
            found[i] = isFlag ? (Object) Boolean.valueOf(words[i]) : (Object) Integer.valueOf(words[i]);
        }
        return found;
    }
}

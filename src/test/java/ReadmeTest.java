import java.io.IOException;
import java.lang.reflect.Method;
import java.nio.file.Files;
import java.nio.file.Path;
import java.util.ArrayList;
import java.util.List;
import java.util.regex.Matcher;
import java.util.regex.Pattern;

/** README.md: the answers that it shows are the class's, and it shows every method. */
public final class ReadmeTest {
    private static final String MADE = "TwoTierCache cache = new TwoTierCache();";
    /** A call and the answer behind it, up to a colon: "cache.goal(0);  // 1: a page came back". */
    private static final Pattern CALL =
            Pattern.compile("cache\\.(\\w+)\\((.*)\\);\\s*// ([-\\w]+)(:.*)?");

    public static void main(String[] args) throws IOException, ReflectiveOperationException {
        Due due = new Due();
        List<String> shown = javaLines(Files.readAllLines(Path.of("README.md")));
        List<String> called = new ArrayList<>();
        due.is("the first line makes an object", shown.get(0).startsWith(MADE), true);
        TwoTierCache cache = new TwoTierCache();
        for (String line : shown.subList(1, shown.size())) {
            Matcher call = CALL.matcher(line);
            boolean isCall = call.matches();
            due.is("a call with its answer: " + line, isCall, true);
            if (isCall) {
                called.add(call.group(1));
                due.is(line, answer(cache, call.group(1), call.group(2)), call.group(3));
            }
        }
        for (Method method : TwoTierCache.class.getMethods()) {
            if (method.getDeclaringClass() == TwoTierCache.class) {
                due.is(method.getName() + " is shown", called.contains(method.getName()), true);
            }
        }
        due.end();
    }

    /** The lines between a line "```java" and the next "```". */
    private static List<String> javaLines(List<String> readme) {
        int start = readme.indexOf("```java") + 1;
        List<String> rest = readme.subList(start, readme.size());
        return rest.subList(0, rest.indexOf("```"));
    }

    private static String answer(TwoTierCache cache, String name, String arguments)
            throws ReflectiveOperationException {
        for (Method method : TwoTierCache.class.getMethods()) {
            if (method.getName().equals(name)) {
                return String.valueOf(method.invoke(cache, values(method, arguments)));
            }
        }
        return "no such method";
    }

    private static Object[] values(Method method, String arguments) {
        Class<?>[] types = method.getParameterTypes();
        String[] texts = arguments.split(", ");
        Object[] values = new Object[types.length];
        for (int i = 0; i < types.length; i++) {
            boolean isNumber = types[i] == int.class;
            values[i] = isNumber ? (Object) Integer.valueOf(texts[i]) : Boolean.valueOf(texts[i]);
        }
        return values;
    }
}

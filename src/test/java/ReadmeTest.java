import java.lang.reflect.Method;
import java.lang.reflect.Modifier;
import java.nio.file.Files;
import java.nio.file.Path;
import java.util.HashMap;
import java.util.Map;
import java.util.regex.Matcher;
import java.util.regex.Pattern;

/** The calls of README.md answer what is said behind them, and it names every call that there is. */
public final class ReadmeTest {
    private static final Pattern CALL = Pattern.compile("bench\\.(\\w+)\\((.*)\\); +// (-?\\w+): .*");
    private static final Due DUE = new Due("ReadmeTest");

    private ReadmeTest() {
    }

    public static void main(String[] args) throws Exception {
        String text = Files.readString(Path.of("README.md"));
        Map<String, Method> methods = new HashMap<>();
        for (Method method : LatticeBench.class.getDeclaredMethods()) {
            if (Modifier.isPublic(method.getModifiers())) {
                methods.put(method.getName(), method);
                DUE.yes("README.md names " + method.getName(), text.contains("`" + method.getName() + "`"));
            }
        }
        Matcher block = Pattern.compile("(?s)```java\n(.*?)```").matcher(text);
        DUE.yes("README.md has an example", block.find());
        LatticeBench bench = new LatticeBench();
        String[] lines = block.group(1).split("\n");
        DUE.same("first line", lines[0], "LatticeBench bench = new LatticeBench();");
        for (int k = 1; k < lines.length; k++) {
            Matcher call = CALL.matcher(lines[k]);
            boolean said = call.matches() && methods.containsKey(call.group(1));
            DUE.yes("a call and its answer: " + lines[k], said);
            if (said) {
                DUE.same(lines[k], answer(bench, methods.get(call.group(1)), call.group(2)), call.group(3));
            }
        }
        DUE.end();
    }

    private static String answer(LatticeBench bench, Method method, String words) throws Exception {
        String[] numbers = words.split(", ");
        Object[] arguments = new Object[numbers.length];
        for (int k = 0; k < numbers.length; k++) {
            arguments[k] = Integer.valueOf(numbers[k]);
        }
        return String.valueOf(method.invoke(bench, arguments));
    }
}

import java.io.IOException;
import java.lang.reflect.Method;
import java.nio.charset.StandardCharsets;
import java.nio.file.Files;
import java.nio.file.Path;
import java.util.Map;
import java.util.TreeMap;
import java.util.TreeSet;
import java.util.regex.Matcher;
import java.util.regex.Pattern;

/** The calls that README.md shows answer what it says behind them; run from the project's folder. */
public final class ReadmeTest {
    private static final Path README = Path.of("README.md");
    private static final Pattern SHOWN = Pattern.compile("(?s)```java\n(.*?)```");
    private static final Pattern TEXT = Pattern.compile("tell\\(x, \"([^\"]*)\"\\);");
    private static final Pattern CALL = Pattern.compile("(x\\.(\\w+)\\(([^)]*)\\));\\s+// ([\\w.-]+)(:.*)?");

    private final Due due;
    private final FeeRules x = new FeeRules();
    private final Map<String, Method> face = new TreeMap<>();
    private final TreeSet<String> unshown = new TreeSet<>();

    private ReadmeTest(Due due) {
        this.due = due;
        for (Method method : FeeRules.class.getMethods()) {
            if (method.getDeclaringClass() == FeeRules.class) {
                face.put(method.getName(), method);
            }
        }
        unshown.addAll(face.keySet());
    }

    public static void main(String[] args) throws IOException, ReflectiveOperationException {
        Due due = new Due("ReadmeTest");
        String readme = Files.readString(README, StandardCharsets.UTF_8);
        Matcher shown = SHOWN.matcher(readme);
        due.is("there is a run of calls", shown.find(), true);
        ReadmeTest test = new ReadmeTest(due);
        for (String line : shown.group(1).split("\n")) {
            test.play(line);
        }
        due.is("calls that are not shown", test.unshown.toString(), "[]");
        test.tableNamesAll(readme);
        due.end();
    }

    private void play(String line) throws ReflectiveOperationException {
        Matcher text = TEXT.matcher(line);
        if (text.matches()) {
            Told.text(x, text.group(1));
            unshown.remove("unit");
            return;
        }
        Matcher call = CALL.matcher(line);
        boolean isCall = call.matches() && face.containsKey(call.group(2));
        due.is("[" + line + "] is a call", isCall, true);
        if (isCall) {
            Method method = face.get(call.group(2));
            Object got = method.invoke(x, arguments(method, call.group(3)));
            due.is(call.group(1), String.valueOf(got), answer(call.group(4)));
            unshown.remove(method.getName());
        }
    }

    private static Object[] arguments(Method method, String told) {
        String[] words = told.split(", ");
        Object[] arguments = new Object[words.length];
        for (int i = 0; i < words.length; i++) {
            boolean isInt = method.getParameterTypes()[i] == int.class;
            arguments[i] = isInt ? (Object) Integer.valueOf(words[i]) : (Object) Long.valueOf(words[i]);
        }
        return arguments;
    }

    private static String answer(String told) {
        return switch (told) {
            case "NONE" -> String.valueOf(FeeRules.NONE);
            case "Long.MIN_VALUE" -> String.valueOf(Long.MIN_VALUE);
            default -> told;
        };
    }

    private void tableNamesAll(String readme) {
        for (Method method : face.values()) {
            due.is("the table names " + method.getName(), readme.contains("\n| `" + method.getName() + "("), true);
        }
    }
}

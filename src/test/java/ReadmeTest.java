import java.io.IOException;
import java.lang.reflect.Method;
import java.nio.file.Files;
import java.nio.file.Path;
import java.util.regex.Matcher;
import java.util.regex.Pattern;

/** The README's examples are run: each call answers what stands behind it; and it names each call and each test. */
public final class ReadmeTest {
    private static final Pattern EXAMPLE = Pattern.compile("(?s)```java\n(.*?)```");
    private static final Pattern CALL =
            Pattern.compile("x\\.(\\w+)\\((.*?)\\); +// ('.'|throws \\w+|[^:]+)(:.*)?");
    private static final String NEW = "FairwayChancery x = new FairwayChancery();";

    public static void main(String[] args) throws IOException {
        String text = Files.readString(Path.of("README.md"));
        examples(text);
        for (String name : Driver.names()) {
            Check.yes("the README names " + name, text.contains("`" + name + "`"));
        }
        tests(text);
        Check.end();
    }

    private static void examples(String text) {
        FairwayChancery x = null;
        int calls = 0;
        Matcher example = EXAMPLE.matcher(text);
        while (example.find()) {
            for (String line : example.group(1).split("\n")) {
                Matcher call = CALL.matcher(line);
                if (line.equals(NEW)) {
                    x = new FairwayChancery();
                } else if (x != null && call.matches()) {
                    call(x, call.group(1), call.group(2), call.group(3), line);
                    calls++;
                } else {
                    Check.tell("not a call with its answer: " + line);
                }
            }
        }
        Check.yes("calls were found", calls > 40);
    }

    private static void call(FairwayChancery x, String name, String told, String due, String line) {
        Method method = Driver.ours(name);
        if (method == null) {
            Check.tell("no such call: " + line);
            return;
        }
        Class<?>[] types = method.getParameterTypes();
        String[] parts = told.isEmpty() ? new String[0] : told.split(", ");
        if (parts.length != types.length) {
            Check.tell("not so many arguments: " + line);
            return;
        }
        Object[] values = new Object[parts.length];
        for (int i = 0; i < parts.length; i++) {
            values[i] = value(types[i], parts[i]);
        }
        String got = Driver.answer(x, method, values);
        got = method.getReturnType() == char.class && got.length() == 1 ? "'" + got + "'" : got;
        got = got.replaceAll("throws\\..*\\.", "throws ");
        Check.yes(line + " - got " + got, got.equals(due));
    }

    private static Object value(Class<?> type, String told) {
        if (type == char.class) {
            return told.charAt(1);
        }
        return type == boolean.class ? (Object) Boolean.valueOf(told) : (Object) Integer.valueOf(told);
    }

    private static void tests(String text) throws IOException {
        try (var files = Files.list(Path.of("src/test/java"))) {
            for (Path file : files.toList()) {
                String name = file.getFileName().toString().replace(".java", "");
                Check.yes("the README names " + name, text.contains("`" + name + "`"));
            }
        }
    }
}

import java.io.IOException;
import java.lang.reflect.InvocationTargetException;
import java.lang.reflect.Method;
import java.nio.file.DirectoryStream;
import java.nio.file.Files;
import java.nio.file.Path;
import java.util.HashMap;
import java.util.Map;
import java.util.regex.Matcher;
import java.util.regex.Pattern;

/** README.md tells every call and every test, and each call of its example answers as it says. */
public final class ReadmeTest {
    private static final Pattern EXAMPLE = Pattern.compile("```java\n(.*?)```", Pattern.DOTALL);
    /** A call, and the answer that stands behind it before a colon, where there is one. */
    private static final Pattern CALL = Pattern.compile("x\\.(\\w+)\\((.*)\\); +// (?:(\\S+): )?.*");
    private static final int FEWEST_CALLS = 20;

    private static final Map<String, Method> FACE = new HashMap<>();

    public static void main(String[] args) throws IOException, ReflectiveOperationException {
        for (Method m : TermCodec.class.getDeclaredMethods()) {
            FACE.put(m.getName(), m);
        }
        String readme = Files.readString(Path.of("README.md"));
        example(readme);
        tellsCalls(readme);
        tellsTests(readme);
        Check.end();
    }

    private static void example(String readme) throws ReflectiveOperationException {
        Matcher block = EXAMPLE.matcher(readme);
        Check.due("there is an example", block.find(), true);
        TermCodec x = new TermCodec();
        int calls = 0;
        for (String line : block.group(1).split("\n")) {
            Matcher call = CALL.matcher(line);
            if (call.matches()) {
                calls++;
                String want = call.group(3) == null ? "nothing" : call.group(3);
                Check.due(line, answer(x, call.group(1), call.group(2)), want);
            } else {
                Check.due("a line of the example", line, "TermCodec x = new TermCodec();");
            }
        }
        Check.due("calls of the example are many", calls >= FEWEST_CALLS, true);
    }

    private static String answer(TermCodec x, String name, String arguments) throws ReflectiveOperationException {
        Method method = FACE.get(name);
        if (method == null) {
            return "no such call";
        }
        String[] texts = arguments.isEmpty() ? new String[0] : arguments.split(", ");
        Object[] values = new Object[texts.length];
        Class<?>[] types = method.getParameterTypes();
        for (int i = 0; i < texts.length && i < types.length; i++) {
            if (types[i] == long.class) {
                values[i] = Long.decode(texts[i]);
            } else {
                values[i] = Integer.decode(texts[i]);
            }
        }
        try {
            Object answer = method.invoke(x, values);
            return method.getReturnType() == void.class ? "nothing" : String.valueOf(answer);
        } catch (InvocationTargetException e) {
            return "throws." + e.getCause().getClass().getSimpleName();
        }
    }

    private static void tellsCalls(String readme) {
        for (String name : FACE.keySet()) {
            Check.due("a row for " + name, readme.contains("| `" + name + "("), true);
        }
    }

    private static void tellsTests(String readme) throws IOException {
        try (DirectoryStream<Path> files = Files.newDirectoryStream(Path.of("src/test/java"), "*Test.java")) {
            for (Path file : files) {
                String name = file.getFileName().toString().replace(".java", "");
                Check.due("a row for " + name, readme.contains("| `" + name + "` |"), true);
            }
        }
    }
}

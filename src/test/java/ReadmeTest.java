import java.io.IOException;
import java.lang.reflect.Method;
import java.lang.reflect.Modifier;
import java.nio.file.Files;
import java.nio.file.Path;
import java.util.List;
import java.util.regex.Matcher;
import java.util.regex.Pattern;
import java.util.stream.Stream;

/** README.md: its examples answer what it says, and it names every call and every test. */
public final class ReadmeTest {
    private static final Pattern CALL = Pattern.compile(" {4}ridge\\.(\\w+)\\(([^)]*)\\);\\s+// (-?\\d+): .*");
    private static final Pattern TYPING = Pattern.compile(" {4}for .*\"(.*)\"\\.toCharArray\\(\\)\\) ridge\\.type.*");
    private static final int EXAMPLES = 13;

    private static final Check check = new Check();

    public static void main(String[] args) throws IOException, ReflectiveOperationException {
        List<String> lines = Files.readAllLines(Path.of("README.md"));
        check.promise("README.md");
        examples(lines);
        names(String.join("\n", lines));
        check.finish();
    }

    private static void examples(List<String> lines) throws ReflectiveOperationException {
        SightRidge ridge = new SightRidge();
        int called = 0;
        for (String line : lines) {
            Matcher call = CALL.matcher(line);
            Matcher typing = TYPING.matcher(line);
            if (call.matches()) {
                check.due(line.trim(), answer(ridge, call.group(1), call.group(2)), Long.parseLong(call.group(3)));
                called++;
            } else if (typing.matches()) {
                Check.typeAll(ridge, typing.group(1));
            } else {
                check.due("a call that is not tried: " + line.trim(), line.startsWith("    ridge.") ? 1 : 0, 0);
            }
        }
        check.due("calls tried", called, EXAMPLES);
    }

    private static long answer(SightRidge ridge, String name, String list) throws ReflectiveOperationException {
        String[] words = list.isEmpty() ? new String[0] : list.split(", ");
        Class<?>[] kinds = new Class<?>[words.length];
        Object[] values = new Object[words.length];
        for (int i = 0; i < words.length; i++) {
            kinds[i] = int.class;
            values[i] = Integer.valueOf(words[i]);
        }
        return ((Number) SightRidge.class.getMethod(name, kinds).invoke(ridge, values)).longValue();
    }

    private static void names(String page) throws IOException {
        for (Method method : SightRidge.class.getDeclaredMethods()) {
            if (Modifier.isPublic(method.getModifiers())) {
                named(page, method.getName());
            }
        }
        try (Stream<Path> files = Files.list(Path.of("src/test/java"))) {
            for (Path file : files.toList()) {
                String name = file.getFileName().toString();
                if (name.endsWith("Test.java")) {
                    named(page, name.substring(0, name.length() - ".java".length()));
                }
            }
        }
    }

    private static void named(String page, String name) {
        check.due("`" + name + "` is named", page.contains("`" + name + "`") ? 1 : 0, 1);
    }
}

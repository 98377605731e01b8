import java.io.IOException;
import java.lang.reflect.Field;
import java.lang.reflect.Method;
import java.lang.reflect.Modifier;
import java.net.URL;
import java.net.URLClassLoader;
import java.nio.file.Files;
import java.nio.file.Path;
import java.util.Map;
import java.util.TreeMap;
import java.util.regex.Matcher;
import java.util.regex.Pattern;
import javax.tools.ToolProvider;

/** README.md: each answer that it shows is the answer of the class, and what it names stands in the class. */
public final class ReadmeTest {
    private static final Check check = new Check("readme");
    private static final Path README = Path.of("README.md");
    private static final Pattern EXAMPLE = Pattern.compile("(?s)```java\n(.*?)```");
    private static final Pattern ANSWER = Pattern.compile("(?m)^(g\\..*);\\s*// answers (.+)$");
    private static final Pattern CONSTANT = Pattern.compile("\\b(?:STATUS|F|FLAG|KIND|OP|S|FR|MAX)_[A-Z_]+\\b");
    private static final Pattern CONSTANT_WITH_VALUE = Pattern.compile("`([A-Z_]+)` \\((\\d+)\\)");

    private static int answers = 0;

    public static void main(String[] args) throws Exception {
        String text = Files.readString(README);
        examples(text);
        constants(text);
        methods(text);
        check.end();
    }

    /** Public, as the next one, because the compiled examples call it from a class of another loader. */
    public static void answer(String call, long got, long shown) {
        answers++;
        check.due(call, got, shown);
    }

    public static void answer(String call, boolean got, boolean shown) {
        answers++;
        check.is(call, got, shown);
    }

    private static void examples(String text) throws Exception {
        Matcher example = EXAMPLE.matcher(text);
        int number = 0;
        int comments = 0;
        while (example.find()) {
            number++;
            comments += example.group(1).split("//", -1).length - 1;
            runExample("ReadmeExample" + number, example.group(1));
        }
        check.yes("the page has examples", number > 0);
        check.due("comments in the examples that were held against the class", answers, comments);
    }

    private static void runExample(String name, String lines) throws Exception {
        String body = ANSWER.matcher(lines).replaceAll("ReadmeTest.answer(\"$1\", $1, $2);");
        Path place = Files.createTempDirectory("readme");
        Path source = place.resolve(name + ".java");
        Files.writeString(source, "public final class " + name + " {\n    public static void main(String[] args) {\n"
            + body + "    }\n}\n");
        int code = ToolProvider.getSystemJavaCompiler().run(null, null, null, "--release", "17",
            "-cp", System.getProperty("java.class.path"), "-d", place.toString(), source.toString());
        check.due("compiling " + name, code, 0);
        if (code == 0) {
            try (URLClassLoader loader = new URLClassLoader(new URL[] {place.toUri().toURL()})) {
                loader.loadClass(name).getMethod("main", String[].class).invoke(null, (Object) new String[0]);
            }
        }
        remove(place, name);
    }

    private static void remove(Path place, String name) throws IOException {
        Files.deleteIfExists(place.resolve(name + ".java"));
        Files.deleteIfExists(place.resolve(name + ".class"));
        Files.deleteIfExists(place);
    }

    private static void constants(String text) throws IllegalAccessException {
        Map<String, Integer> values = new TreeMap<>();
        for (Field field : RingGates.class.getDeclaredFields()) {
            if (Modifier.isPublic(field.getModifiers())) {
                values.put(field.getName(), field.getInt(null));
                check.yes("the page names " + field.getName(), text.contains(field.getName()));
            }
        }
        CONSTANT.matcher(text).results().forEach(named ->
            check.yes("the class has " + named.group(), values.containsKey(named.group())));
        CONSTANT_WITH_VALUE.matcher(text).results().forEach(named ->
            check.due(named.group(1), Integer.parseInt(named.group(2)), values.getOrDefault(named.group(1), -1)));
    }

    private static void methods(String text) {
        for (Method method : RingGates.class.getDeclaredMethods()) {
            if (Modifier.isPublic(method.getModifiers())) {
                int more = method.getParameterCount() - 1;
                String told = "`" + method.getName() + "\\(\\w+(?:, \\w+){" + more + "}\\)`";
                check.yes("the page tells " + told, Pattern.compile(told).matcher(text).find());
            }
        }
    }
}

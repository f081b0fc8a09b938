import java.io.IOException;
import java.lang.reflect.Method;
import java.lang.reflect.Modifier;
import java.nio.charset.StandardCharsets;
import java.nio.file.DirectoryStream;
import java.nio.file.Files;
import java.nio.file.Path;
import java.util.Map;
import java.util.regex.Matcher;
import java.util.regex.Pattern;

/** What README.md tells of the class and of the tests; run from the root of the project. */
public final class ReadmeTest {
    private static final Pattern TEXT = Pattern.compile("String text = \"([^\"]*)\";");
    /** A call of the example, with the answer that its comment begins with. */
    private static final Pattern ANSWERED =
            Pattern.compile("(?m)^x\\.(\\w+)\\(([^)]*)\\);\\s*// (-?\\d+|[A-Z]+)\\b");
    private static final Map<String, Integer> NAMES = Map.of("NONE", GurdyTide.NONE, "UNKNOWN", GurdyTide.UNKNOWN,
            "OUTSIDE", GurdyTide.OUTSIDE, "NOT", GurdyTide.NOT, "FULL", GurdyTide.FULL);
    private static final Check check = new Check("ReadmeTest");

    public static void main(String[] args) throws IOException, ReflectiveOperationException {
        String readme = Files.readString(Path.of("README.md"), StandardCharsets.UTF_8);
        example(readme.substring(readme.indexOf("```java"), readme.indexOf("```\n\n|")));
        calls(readme);
        tests(readme);
        check.end();
    }

    private static void example(String block) throws ReflectiveOperationException {
        Matcher text = TEXT.matcher(block);
        check.holds("the example has a text", text.find());
        GurdyTide x = new GurdyTide();
        Check.feed(x, text.group(1));
        Matcher call = ANSWERED.matcher(block);
        int found = 0;
        while (call.find()) {
            found++;
            check.due("README's " + call.group(), made(x, call.group(1), call.group(2)), number(call.group(3)));
        }
        check.due("calls of the example with an answer", found, block.lines().filter(s -> s.startsWith("x.")).count());
    }

    private static int made(GurdyTide x, String name, String numbers) throws ReflectiveOperationException {
        String[] parts = numbers.isBlank() ? new String[0] : numbers.split(",");
        Object[] values = new Object[parts.length];
        Class<?>[] types = new Class<?>[parts.length];
        for (int i = 0; i < parts.length; i++) {
            values[i] = number(parts[i].trim().replace("GurdyTide.", ""));
            types[i] = int.class;
        }
        Method method = GurdyTide.class.getMethod(name, types);
        return (Integer) method.invoke(x, values);
    }

    private static int number(String s) {
        return NAMES.containsKey(s) ? NAMES.get(s) : Integer.parseInt(s);
    }

    private static void calls(String readme) {
        for (Method m : GurdyTide.class.getDeclaredMethods()) {
            if (Modifier.isPublic(m.getModifiers())) {
                check.holds("README names `" + m.getName() + "`", readme.contains("`" + m.getName() + "`"));
            }
        }
        for (String name : NAMES.keySet()) {
            check.holds("README names `" + name + "`", readme.contains("`" + name + "`"));
        }
    }

    /** Each file of the tests is named, and what is named as one is there. */
    private static void tests(String readme) throws IOException {
        Path folder = Path.of("src/test/java");
        try (DirectoryStream<Path> files = Files.newDirectoryStream(folder, "*.java")) {
            for (Path file : files) {
                String name = file.getFileName().toString().replace(".java", "");
                check.holds("README names `" + name + "`", readme.contains("`" + name + "`"));
            }
        }
        Matcher named = Pattern.compile("`([A-Z][a-z]\\w*)`|java -cp out (\\w+)").matcher(readme);
        while (named.find()) {
            String name = named.group(1) != null ? named.group(1) : named.group(2);
            check.holds(name + ".java is there", Files.exists(folder.resolve(name + ".java")));
        }
    }
}

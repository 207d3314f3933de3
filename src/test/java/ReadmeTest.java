import java.io.IOException;
import java.lang.reflect.Method;
import java.nio.file.Files;
import java.nio.file.Path;
import java.util.Set;
import java.util.TreeSet;
import java.util.regex.Matcher;
import java.util.regex.Pattern;

/** What README.md says holds: its example answers as its comments say, and its tables have every call and every test. */
public final class ReadmeTest {
    private static final Pattern EXAMPLE = Pattern.compile("(?s)```java\n(.*?)```");
    private static final Pattern TOLD = Pattern.compile("char letter : \"([^\"]*)\"");
    private static final Pattern CALL = Pattern.compile("x\\.(\\w+)\\(([^)]*)\\);\\s*// (-?\\d+)");
    private static final Pattern ROW = Pattern.compile("(?m)^\\| `(\\w+)\\(([^)]*)\\)` \\|");

    private static final Checks checks = new Checks();

    public static void main(String[] args) throws IOException, ReflectiveOperationException {
        String readme = Files.readString(Path.of("README.md"));
        example(readme);
        calls(readme);
        tests(readme);
        checks.end();
    }

    private static int numbersIn(String list) {
        return list.isBlank() ? 0 : list.split(",").length;
    }

    private static void example(String readme) throws ReflectiveOperationException {
        Matcher example = EXAMPLE.matcher(readme);
        checks.holds("there is an example", example.find());
        Matcher told = TOLD.matcher(example.group(1));
        checks.holds("it tells a text", told.find());
        BanisterWord x = new BanisterWord();
        Checks.write(x, told.group(1));
        checks.due("fault() of '" + told.group(1) + "'", x.fault(), BanisterWord.NONE);
        Matcher call = CALL.matcher(example.group(1));
        int calls = 0;
        while (call.find()) {
            checks.due("README's " + call.group(), answer(x, call.group(1), call.group(2)), Integer.parseInt(call.group(3)));
            calls++;
        }
        checks.holds("every line that tells an answer was called", calls == example.group(1).split("// ").length - 1);
    }

    private static int answer(BanisterWord x, String name, String list) throws ReflectiveOperationException {
        String[] words = numbersIn(list) == 0 ? new String[0] : list.split(",");
        Class<?>[] types = new Class<?>[words.length];
        Object[] numbers = new Object[words.length];
        for (int i = 0; i < words.length; i++) {
            types[i] = int.class;
            numbers[i] = Integer.valueOf(words[i].trim());
        }
        return (Integer) BanisterWord.class.getMethod(name, types).invoke(x, numbers);
    }

    private static void calls(String readme) {
        Set<String> face = new TreeSet<>();
        for (Method m : BanisterWord.class.getDeclaredMethods()) {
            if (java.lang.reflect.Modifier.isPublic(m.getModifiers())) {
                face.add(m.getName() + "/" + m.getParameterCount());
            }
        }
        Set<String> told = new TreeSet<>();
        Matcher row = ROW.matcher(readme);
        while (row.find()) {
            checks.holds(row.group(1) + " has one row", told.add(row.group(1) + "/" + numbersIn(row.group(2))));
        }
        checks.holds("README's calls " + told + " are the face's " + face, told.equals(face));
    }

    private static void tests(String readme) throws IOException {
        try (var files = Files.list(Path.of("src/test/java"))) {
            files.map(f -> f.getFileName().toString()).filter(f -> f.endsWith("Test.java"))
                    .forEach(f -> checks.holds("README names " + f, readme.contains(f)));
        }
    }
}

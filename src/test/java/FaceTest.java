import java.io.IOException;
import java.lang.reflect.Constructor;
import java.lang.reflect.Field;
import java.lang.reflect.Method;
import java.lang.reflect.Modifier;
import java.nio.charset.StandardCharsets;
import java.nio.file.Files;
import java.nio.file.Path;
import java.util.List;
import java.util.Set;
import java.util.TreeSet;
import java.util.regex.Matcher;
import java.util.regex.Pattern;

/** The class has the document's face and no other, and the source keeps to what can be looked up in it of LANGUAGE.md. */
public final class FaceTest {
    private static final Path SOURCE = Path.of("src/main/java/BanisterWord.java");
    private static final Set<String> METHODS = Set.of("write/1", "erase/0", "fault/0", "house/0", "person/2",
            "rail/3", "as/2", "down/3", "up/2", "polish/1", "night/0", "undo/0", "keep/1", "back/1", "hears/2",
            "lasts/1", "send/2", "cover/2", "seen/4", "forget/0", "said/2", "who/2", "palms/5", "count/1");
    private static final Set<String> CONSTANTS = Set.of("NONE", "UNKNOWN", "OUTSIDE", "NOT", "FULL");
    private static final String[] RULED_OUT = {"\\bthrow", "\\btry\\b", "\\bcatch\\b", "\\bsynchronized\\b",
            "\\bassert\\b", "\\bimport\\b", "\\bpackage\\b", "->", "::", "\\bstatic \\{", "\\bvar\\b", "@",
            "Exact\\(", "\\bSystem\\.(?!arraycopy)", "[^\\x00-\\x7f]"};
    private static final Pattern METHOD = Pattern.compile("( {4}| {8})\\w.*\\) \\{");

    private static final Checks checks = new Checks();

    public static void main(String[] args) throws IOException {
        constants();
        members();
        classesInside();
        source();
        methodLengths();
        checks.end();
    }

    private static void constants() {
        checks.due("NONE", BanisterWord.NONE, -1);
        checks.due("UNKNOWN", BanisterWord.UNKNOWN, -2);
        checks.due("OUTSIDE", BanisterWord.OUTSIDE, -3);
        checks.due("NOT", BanisterWord.NOT, -4);
        checks.due("FULL", BanisterWord.FULL, -5);
    }

    private static void members() {
        int form = BanisterWord.class.getModifiers();
        checks.holds("public and final", Modifier.isPublic(form) && Modifier.isFinal(form));
        Set<String> methods = new TreeSet<>();
        for (Method m : BanisterWord.class.getDeclaredMethods()) {
            if (Modifier.isPublic(m.getModifiers())) {
                methods.add(m.getName() + "/" + m.getParameterCount());
                checks.holds(m + " answers an int", m.getReturnType() == int.class && !Modifier.isStatic(m.getModifiers()));
            } else {
                checks.holds(m + " is private", Modifier.isPrivate(m.getModifiers()));
                checks.holds(m + " has a name of its own", METHODS.stream().noneMatch(f -> f.startsWith(m.getName() + "/")));
            }
        }
        checks.holds("the public methods are the document's", methods.equals(METHODS));
        for (Field f : BanisterWord.class.getDeclaredFields()) {
            checks.holds(f + " is private or a constant of the document",
                    Modifier.isPrivate(f.getModifiers()) || CONSTANTS.contains(f.getName()));
        }
        Constructor<?>[] made = BanisterWord.class.getDeclaredConstructors();
        checks.holds("one public constructor", made.length == 1 && Modifier.isPublic(made[0].getModifiers()));
    }

    private static void classesInside() {
        Class<?>[] inside = BanisterWord.class.getDeclaredClasses();
        checks.holds("at most twelve classes", inside.length + 1 <= 12);
        sizes(BanisterWord.class);
        for (Class<?> c : inside) {
            checks.holds(c + " is static", Modifier.isStatic(c.getModifiers()));
            checks.holds(c + " is not public", !Modifier.isPublic(c.getModifiers()));
            sizes(c);
        }
    }

    private static void sizes(Class<?> c) {
        for (Method m : c.getDeclaredMethods()) {
            checks.holds(m + " has at most seven parameters", m.getParameterCount() <= 7);
        }
        int fields = 0;
        for (Field f : c.getDeclaredFields()) {
            fields += Modifier.isStatic(f.getModifiers()) ? 0 : 1;
            checks.holds(f + " is final, if it is static", !Modifier.isStatic(f.getModifiers()) || Modifier.isFinal(f.getModifiers()));
        }
        checks.holds(c + " has at most twenty fields beside its constants", fields <= 20);
    }

    private static void source() throws IOException {
        String source = Files.readString(SOURCE, StandardCharsets.ISO_8859_1);
        String code = source.replaceAll("(?s)/\\*.*?\\*/", "").replaceAll("//[^\n]*", "");
        for (String wrong : RULED_OUT) {
            checks.holds("the source has no " + wrong, !Pattern.compile(wrong).matcher(code).find());
        }
    }

    /** A method begins with a line that ends in ') {' and ends with a brace as far in as it began. */
    private static void methodLengths() throws IOException {
        List<String> lines = Files.readAllLines(SOURCE, StandardCharsets.ISO_8859_1);
        int methods = 0;
        for (int i = 0; i < lines.size(); i++) {
            Matcher head = METHOD.matcher(lines.get(i));
            if (head.matches()) {
                int end = i;
                while (!lines.get(end).equals(head.group(1) + "}")) {
                    end++;
                }
                methods++;
                checks.holds(lines.get(i).trim() + " has at most sixty lines", end - i < 60);
            }
        }
        checks.holds("the methods were found", methods > METHODS.size());
    }
}

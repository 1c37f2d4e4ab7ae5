import java.io.IOException;
import java.lang.reflect.Method;
import java.lang.reflect.Modifier;
import java.nio.file.Files;
import java.nio.file.Path;
import java.util.HashSet;
import java.util.Set;
import java.util.regex.Matcher;
import java.util.regex.Pattern;

/** The calls that README.md shows answer what it writes beside them: so its words can't go stale. */
public final class ReadmeTest {
    private static final Pattern NEW = Pattern.compile("LetterSums x = new LetterSums\\((\\d+)\\);.*");
    private static final Pattern TYPE = Pattern.compile("type\\(x, \"(.*)\"\\);");
    private static final Pattern CALL = Pattern.compile("x\\.(\\w+)\\((.*?)\\);(?: +// (-?\\d+|true|false): .*)?");

    private static final Set<String> shown = new HashSet<>();
    private static LetterSums x = null;

    public static void main(String[] args) throws IOException {
        String readme = Files.readString(Path.of("README.md"));
        Check.test("README.md: each call answers what is written beside it", () -> follow(readme));
        Check.test("README.md: each method of the face is shown", ReadmeTest::showsTheFace);
        Check.end();
    }

    private static void follow(String readme) {
        boolean inside = false;
        for (String line : readme.split("\n")) {
            if (line.startsWith("```")) {
                inside = line.equals("```java");
            } else if (inside) {
                followLine(line);
            }
        }
    }

    private static void followLine(String line) {
        Matcher made = NEW.matcher(line);
        Matcher typed = TYPE.matcher(line);
        Matcher called = CALL.matcher(line);
        if (made.matches()) {
            x = new LetterSums(Integer.parseInt(made.group(1)));
        } else if (typed.matches()) {
            Check.type(x, typed.group(1));
            shown.add("unit");
        } else if (called.matches()) {
            shown.add(called.group(1));
            compare(line, String.valueOf(call(called.group(1), called.group(2))), called.group(3));
        } else {
            // A call in a form that this test can't follow would go unlooked at.
            Check.due("not followed: " + line, line.startsWith("x."), false);
        }
    }

    private static void compare(String line, String got, String want) {
        // bar() alone answers nothing.
        Check.due(line, got, want == null ? "null" : want);
    }

    private static Object call(String name, String written) {
        Object[] values = written.isEmpty() ? new Object[0] : values(written.split(", "));
        for (Method m : LetterSums.class.getMethods()) {
            if (m.getName().equals(name)) {
                try {
                    return m.invoke(x, values);
                } catch (ReflectiveOperationException e) {
                    throw new IllegalStateException(name, e);
                }
            }
        }
        throw new IllegalStateException("no such method: " + name);
    }

    private static Object[] values(String[] written) {
        Object[] values = new Object[written.length];
        for (int i = 0; i < written.length; i++) {
            values[i] = value(written[i]);
        }
        return values;
    }

    private static Object value(String written) {
        if (written.startsWith("'")) {
            return (int) written.charAt(1);
        }
        if (written.equals("true") || written.equals("false")) {
            return written.equals("true");
        }
        return Integer.parseInt(written);
    }

    private static void showsTheFace() {
        for (Method m : LetterSums.class.getDeclaredMethods()) {
            if (Modifier.isPublic(m.getModifiers())) {
                Check.due(m.getName() + " is shown", shown.contains(m.getName()), true);
            }
        }
    }
}

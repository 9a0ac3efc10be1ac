import java.lang.reflect.Method;
import java.lang.reflect.Modifier;
import java.nio.file.Files;
import java.nio.file.Path;
import java.util.Set;
import java.util.TreeSet;
import java.util.regex.Matcher;
import java.util.regex.Pattern;

/** The examples in README.md, one behind the other: each call answers what stands behind it, and none is left out. */
public final class ReadmeTest {
    private static final Pattern MADE = Pattern.compile("BlueByTouch x = new BlueByTouch\\(\\);");
    private static final Pattern WRITTEN =
        Pattern.compile("for \\(char c : \"([^\"]*)\"\\.toCharArray\\(\\)\\) x\\.write\\(c\\);");
    private static final Pattern ASKED =
        Pattern.compile("x\\.(\\w+)\\(([^)]*)\\); +// (-?\\d+)(?: \\((BAD|NO|FULL|NONE)\\))?(?:: .*)?");
    private static final Checks checks = new Checks();
    private static final Set<String> asked = new TreeSet<>();
    private static BlueByTouch x = null;

    public static void main(String[] args) throws Exception {
        boolean inExample = false;
        for (String line : Files.readAllLines(Path.of("README.md"))) {
            if (line.startsWith("```")) {
                inExample = line.equals("```java");
            } else if (inExample) {
                follow(line);
            }
        }
        for (Method method : BlueByTouch.class.getDeclaredMethods()) {
            if (Modifier.isPublic(method.getModifiers())) {
                checks.due("that README.md shows " + method.getName(), asked.contains(method.getName()) ? 1 : 0, 1);
            }
        }
        checks.end();
    }

    private static void follow(String line) throws Exception {
        Matcher written = WRITTEN.matcher(line);
        Matcher call = ASKED.matcher(line);
        if (MADE.matcher(line).matches()) {
            x = new BlueByTouch();
        } else if (written.matches()) {
            Checks.write(x, written.group(1));
        } else if (call.matches()) {
            checks.due("README.md: " + line, answer(call.group(1), call.group(2)), Integer.parseInt(call.group(3)));
            if (call.group(4) != null) {
                int named = BlueByTouch.class.getField(call.group(4)).getInt(null);
                checks.due("README.md: the name in " + line, named, Integer.parseInt(call.group(3)));
            }
        } else {
            checks.due("README.md: a line that is read: " + line, 0, 1);
        }
    }

    private static int answer(String name, String told) throws Exception {
        String[] parts = told.isEmpty() ? new String[0] : told.split(", ");
        Class<?>[] types = new Class<?>[parts.length];
        Object[] values = new Object[parts.length];
        for (int p = 0; p < parts.length; p++) {
            types[p] = int.class;
            values[p] = parts[p].startsWith("'") ? (int) parts[p].charAt(1) : Integer.parseInt(parts[p]);
        }
        asked.add(name);
        return (int) BlueByTouch.class.getMethod(name, types).invoke(x, values);
    }
}

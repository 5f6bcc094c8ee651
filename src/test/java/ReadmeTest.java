import java.io.IOException;
import java.lang.reflect.Method;
import java.lang.reflect.Modifier;
import java.nio.file.Files;
import java.nio.file.Path;
import java.util.HashSet;
import java.util.Set;
import java.util.regex.Matcher;
import java.util.regex.Pattern;

/** README.md's own calls, made in the order in which they stand there: each answers what stands behind it. */
public final class ReadmeTest {
    private static final Check CHECK = new Check();
    private static final Pattern NEW = Pattern.compile("HotWeek x = new HotWeek\\(\\);");
    private static final Pattern TELL = Pattern.compile("tell\\(x, \"(.*)\"\\);");
    private static final Pattern CALL = Pattern.compile("x\\.(\\w+)\\((.*?)\\); +// (-?\\d+)\\b.*");

    public static void main(String[] args) throws IOException, ReflectiveOperationException {
        HotWeek x = null;
        Set<String> asked = new HashSet<>();
        for (String line : Files.readString(Path.of("README.md")).split("\n")) {
            Matcher tell = TELL.matcher(line);
            Matcher call = CALL.matcher(line);
            if (NEW.matcher(line).matches()) {
                x = new HotWeek();
            } else if (tell.matches()) {
                Check.write(x, tell.group(1));
            } else if (call.matches()) {
                asked.add(call.group(1));
                CHECK.due(line, answer(x, call.group(1), call.group(2)), Long.parseLong(call.group(3)));
            } else {
                CHECK.due("a call without its answer: " + line, line.startsWith("x.") ? 1 : 0, 0);
            }
        }
        for (Method m : HotWeek.class.getDeclaredMethods()) {
            // room, door and count answer what was told, no more: the page may leave them out
            if (Modifier.isPublic(m.getModifiers())
                    && !Set.of("room", "door", "count").contains(m.getName())) {
                CHECK.due("the page shows " + m.getName(), asked.contains(m.getName()) ? 1 : 0, 1);
            }
        }
        CHECK.end();
    }

    private static int answer(HotWeek x, String name, String arguments) throws ReflectiveOperationException {
        String[] parts = arguments.isEmpty() ? new String[0] : arguments.split(", ");
        for (Method m : HotWeek.class.getMethods()) {
            if (m.getName().equals(name) && m.getDeclaringClass() == HotWeek.class) {
                Object[] values = new Object[parts.length];
                for (int i = 0; i < parts.length; i++) {
                    long value = number(parts[i]);
                    values[i] = m.getParameterTypes()[i] == long.class ? (Object) value : (Object) (int) value;
                }
                return (int) m.invoke(x, values);
            }
        }
        CHECK.due("no such call: " + name, 0, 1);
        return 0;
    }

    private static long number(String part) throws ReflectiveOperationException {
        if (part.startsWith("HotWeek.")) {
            return HotWeek.class.getField(part.substring("HotWeek.".length())).getInt(null);
        }
        return Long.decode(part.endsWith("L") ? part.substring(0, part.length() - 1) : part);
    }
}

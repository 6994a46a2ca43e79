import java.io.IOException;
import java.lang.reflect.InvocationTargetException;
import java.lang.reflect.Method;
import java.nio.file.Files;
import java.nio.file.Path;
import java.util.Set;
import java.util.TreeSet;
import java.util.regex.Matcher;
import java.util.regex.Pattern;

/** README.md tells the truth: each call that it shows answers what it says, and no call goes unmentioned. */
public final class ReadmeTest {
    private static final Pattern CALL = Pattern.compile("map\\.(\\w+)\\((.*?)\\); +// (-?\\d+)(:.*)?");
    private static final Set<String> SHOWN = new TreeSet<>();
    private static MapFold map = new MapFold();
    private static int wrong = 0;

    private static void fault(String told) {
        wrong++;
        System.out.println(told);
    }

    public static void main(String[] args) throws IOException, ReflectiveOperationException {
        boolean inside = false;
        for (String line : Files.readAllLines(Path.of("README.md"))) {
            if (line.startsWith("```")) {
                inside = line.equals("```java");
            } else if (inside) {
                run(line);
            }
        }
        for (Method m : MapFold.class.getMethods()) {
            if (m.getDeclaringClass() == MapFold.class && !SHOWN.contains(m.getName())) {
                fault("README.md shows no " + m.getName());
            }
        }
        System.out.println(wrong == 0 ? "README.md tells the truth" : wrong + " faults in README.md");
        if (wrong != 0) {
            System.exit(1);
        }
    }

    private static void run(String line) throws IllegalAccessException, InvocationTargetException {
        if (line.equals("MapFold map = new MapFold();")) {
            map = new MapFold();
            return;
        }
        Matcher m = CALL.matcher(line);
        if (!m.matches()) {
            fault("README.md has a line that is no call with its answer: " + line);
            return;
        }
        SHOWN.add(m.group(1));
        long got = answer(m.group(1), m.group(2));
        if (got != Long.parseLong(m.group(3))) {
            fault("README.md: " + line.trim() + " -- it answered " + got);
        }
    }

    private static long answer(String name, String given) throws IllegalAccessException, InvocationTargetException {
        String[] texts = given.isEmpty() ? new String[0] : given.split(", ");
        for (Method m : MapFold.class.getMethods()) {
            if (m.getName().equals(name) && m.getParameterCount() == texts.length) {
                Object[] values = new Object[texts.length];
                for (int i = 0; i < texts.length; i++) {
                    values[i] = value(texts[i], m.getParameterTypes()[i]);
                }
                return ((Number) m.invoke(map, values)).longValue();
            }
        }
        fault("README.md shows a call that the class has not: " + name + "(" + given + ")");
        return Long.MIN_VALUE;
    }

    private static Object value(String text, Class<?> type) {
        if (text.startsWith("'")) {
            return (int) text.charAt(1);
        }
        return type == long.class ? (Object) Long.parseLong(text) : (Object) Integer.parseInt(text);
    }
}

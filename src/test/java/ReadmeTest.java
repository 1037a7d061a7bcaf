import java.lang.reflect.InvocationTargetException;
import java.lang.reflect.Method;
import java.lang.reflect.Modifier;
import java.nio.file.Files;
import java.nio.file.Path;
import java.util.List;
import java.util.TreeSet;
import java.util.regex.Matcher;
import java.util.regex.Pattern;

/** Each call of the examples in README.md answers what stands behind it, and no call of the face is left out. */
public final class ReadmeTest {
    private static final String NEW = "ClassFrames x = new ClassFrames();";
    private static final Pattern CALL = Pattern.compile("x\\.(\\w+)\\(([-0-9, ]*)\\); +// (throws \\w+$|-?\\d+(?=: )).*");

    public static void main(String[] args) throws Exception {
        List<String> lines = Files.readAllLines(Path.of("README.md"));
        TreeSet<String> shown = examples(lines);
        for (Method m : ClassFrames.class.getDeclaredMethods()) {
            if (Modifier.isPublic(m.getModifiers())) {
                Due.holds("an example has " + m.getName(), shown.contains(m.getName()));
                Due.holds("the table has " + m.getName(),
                        lines.stream().anyMatch(line -> line.startsWith("|") && line.contains("`" + m.getName() + "`")));
            }
        }
        Due.holds("how to run the tests", lines.stream().anyMatch(line -> line.trim().equals(".ci/run")));
        Due.end();
    }

    /** Does them all; the names of the calls. */
    private static TreeSet<String> examples(List<String> lines) throws Exception {
        TreeSet<String> shown = new TreeSet<>();
        ClassFrames x = new ClassFrames();
        boolean inside = false;
        for (String line : lines) {
            if (line.startsWith("```")) {
                inside = line.equals("```java");
            } else if (inside && line.equals(NEW)) {
                x = new ClassFrames();
            } else if (inside) {
                Matcher told = CALL.matcher(line);
                boolean isCall = told.matches();
                Due.holds("a call with its answer: " + line, isCall);
                if (isCall) {
                    String got = answer(x, told.group(1), told.group(2));
                    Due.holds(line + " (it answered " + got + ")", got.equals(told.group(3)));
                    shown.add(told.group(1));
                }
            }
        }
        return shown;
    }

    private static String answer(ClassFrames x, String name, String text) throws Exception {
        String[] numbers = text.isBlank() ? new String[0] : text.split(", *");
        for (Method m : ClassFrames.class.getMethods()) {
            if (m.getName().equals(name) && m.getParameterCount() == numbers.length) {
                return answer(x, m, numbers);
            }
        }
        return "no such call";
    }

    private static String answer(ClassFrames x, Method m, String[] numbers) throws Exception {
        Object[] values = new Object[numbers.length];
        for (int i = 0; i < numbers.length; i++) {
            if (m.getParameterTypes()[i] == long.class) {
                values[i] = Long.valueOf(numbers[i]);
            } else {
                values[i] = Integer.valueOf(numbers[i]);
            }
        }
        try {
            return m.invoke(x, values).toString();
        } catch (InvocationTargetException e) {
            return "throws " + e.getCause().getClass().getSimpleName();
        }
    }
}

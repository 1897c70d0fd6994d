import java.io.IOException;
import java.lang.reflect.InvocationTargetException;
import java.lang.reflect.Method;
import java.lang.reflect.Modifier;
import java.nio.file.Files;
import java.nio.file.Path;
import java.util.regex.Matcher;
import java.util.regex.Pattern;

/** The examples of README.md: each call answers what stands behind it. Run in the project's directory. */
public final class ReadmeTest {
    private static final Pattern CALL = Pattern.compile("j\\.(\\w+)\\(([^)]*)\\);\\s*// ([-\\w]+): .*");
    private static FlowJudge j;

    public static void main(String[] args) throws IOException, ReflectiveOperationException {
        boolean isExample = false;
        int lines = 0;
        for (String line : Files.readAllLines(Path.of("README.md"))) {
            if (line.startsWith("```")) {
                isExample = line.equals("```java");
            } else if (isExample) {
                example(line);
                lines++;
            }
        }
        Check.yes("there are examples", lines > 30);
        everyMethod(Files.readString(Path.of("README.md")));
        Check.end("ReadmeTest");
    }

    private static void example(String line) throws ReflectiveOperationException {
        if (line.equals("FlowJudge j = new FlowJudge();")) {
            j = new FlowJudge();
            return;
        }
        Matcher m = CALL.matcher(line);
        Check.yes("an example that can be read: " + line, m.matches());
        if (m.matches()) {
            Check.same(line, answer(m.group(1), m.group(2)), m.group(3));
        }
    }

    private static String answer(String name, String list) throws ReflectiveOperationException {
        String[] words = list.isEmpty() ? new String[0] : list.split(", ");
        for (Method m : FlowJudge.class.getMethods()) {
            if (!m.getName().equals(name)) {
                continue;
            }
            Object[] values = new Object[words.length];
            for (int k = 0; k < words.length; k++) {
                boolean isNumber = m.getParameterTypes()[k] == int.class;
                values[k] = isNumber ? (Object) Integer.valueOf(words[k]) : (Object) Boolean.valueOf(words[k]);
            }
            try {
                return String.valueOf(m.invoke(j, values));
            } catch (InvocationTargetException e) {
                return String.valueOf(e.getCause());
            }
        }
        return "no such method";
    }

    /** What the face has is spoken of. */
    private static void everyMethod(String text) {
        for (Method m : FlowJudge.class.getDeclaredMethods()) {
            if (Modifier.isPublic(m.getModifiers())) {
                Check.yes("README.md speaks of " + m.getName(), text.contains("j." + m.getName() + "(") || text.contains("`" + m.getName() + "`"));
            }
        }
    }
}

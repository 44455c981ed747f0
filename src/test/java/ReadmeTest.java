import java.io.IOException;
import java.lang.reflect.Method;
import java.lang.reflect.Modifier;
import java.nio.file.Files;
import java.nio.file.Path;
import java.util.List;
import java.util.regex.Matcher;
import java.util.regex.Pattern;

/** The examples of README.md: each call is made and has the answer that stands behind it. */
public final class ReadmeTest {
    private static final Pattern MADE = Pattern.compile("TwinHart machine = new TwinHart\\((\\w+)\\);.*");
    private static final Pattern CALL = Pattern.compile("machine\\.(\\w+)\\(([^)]*)\\);\\s+// (-?\\w+)(:.*)?");

    private final Check check = new Check();
    private TwinHart machine = null;
    private int examples = 0;

    public static void main(String[] args) throws IOException, ReflectiveOperationException {
        ReadmeTest test = new ReadmeTest();
        List<String> lines = Files.readAllLines(Path.of("README.md"));
        test.examples(lines);
        test.everyMethodIsTold(String.join("\n", lines));
        test.check.end();
    }

    private void examples(List<String> lines) throws ReflectiveOperationException {
        boolean inside = false;
        for (String line : lines) {
            if (line.startsWith("```")) {
                inside = line.equals("```java");
                machine = null;
            } else if (inside) {
                example(line);
            }
        }
        check.due("examples with a machine of their own", examples, 2);
    }

    private void example(String line) throws ReflectiveOperationException {
        Matcher made = MADE.matcher(line);
        Matcher call = CALL.matcher(line);
        if (made.matches()) {
            machine = new TwinHart(number(made.group(1)));
            examples++;
        } else if (machine != null && call.matches()) {
            check.due(line, answer(call.group(1), call.group(2)), number(call.group(3)));
        } else {
            check.due("a call with its answer: " + line, false, true);
        }
    }

    private long answer(String name, String list) throws ReflectiveOperationException {
        String[] texts = list.isEmpty() ? new String[0] : list.split(", ");
        Class<?>[] types = new Class<?>[texts.length];
        Object[] values = new Object[texts.length];
        for (int i = 0; i < texts.length; i++) {
            types[i] = int.class;
            values[i] = number(texts[i]);
        }
        Object got = TwinHart.class.getMethod(name, types).invoke(machine, values);
        return got instanceof Boolean ? ((Boolean) got ? 1 : 0) : (Integer) got;
    }

    private static int number(String text) {
        if (text.equals("true") || text.equals("false")) {
            return text.equals("true") ? 1 : 0;
        }
        return Long.decode(text).intValue();
    }

    private void everyMethodIsTold(String text) {
        for (Method method : TwinHart.class.getDeclaredMethods()) {
            if (Modifier.isPublic(method.getModifiers())) {
                check.due("README tells " + method.getName(), text.contains("`" + method.getName() + "("), true);
            }
        }
    }
}

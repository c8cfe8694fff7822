import java.io.IOException;
import java.lang.reflect.Method;
import java.lang.reflect.Modifier;
import java.nio.file.Files;
import java.nio.file.Path;
import java.util.Set;
import java.util.TreeSet;
import java.util.regex.Matcher;
import java.util.regex.Pattern;

/**
 * Does the calls of the example in README.md, in their order, and holds the answers that stand behind them. It is
 * read from there, so that the text can't come to say another thing than the class does.
 */
public final class ReadmeTest {
    private static final Pattern MADE = Pattern.compile("GoldenKeeper x = new GoldenKeeper\\((-?\\d+)\\);\\s+// .*");
    private static final Pattern CALL = Pattern.compile("x\\.(\\w+)\\(([-\\d, ]*)\\);\\s+// ([A-Z]+|-?\\d+)(: .*)?");
    private static final Pattern CONSTANT = Pattern.compile("\\| `(\\w+)` \\| (-\\d+) \\|.*");

    private final Set<String> called = new TreeSet<>();
    private int constants = 0;
    private GoldenKeeper x = null;

    public static void main(String[] args) throws IOException, ReflectiveOperationException {
        ReadmeTest test = new ReadmeTest();
        boolean inExample = false;
        for (String line : Files.readAllLines(Path.of("README.md"))) {
            if (line.startsWith("```")) {
                inExample = line.equals("```java");
            } else if (inExample) {
                test.follow(line);
            } else {
                test.holdConstant(line);
            }
        }
        Due.is("constants that are told", test.constants, 4);
        Due.isTrue("every method is shown, not only " + test.called, test.called.equals(face()));
        Due.end("ReadmeTest");
    }

    private void follow(String line) throws ReflectiveOperationException {
        Matcher made = MADE.matcher(line);
        Matcher call = CALL.matcher(line);
        if (made.matches()) {
            x = new GoldenKeeper(Integer.parseInt(made.group(1)));
        } else if (x != null && call.matches()) {
            called.add(call.group(1));
            Due.is(line, answer(call.group(1), call.group(2)), due(call.group(3)));
        } else {
            Due.isTrue("a call with its answer: " + line, false);
        }
    }

    private void holdConstant(String line) throws ReflectiveOperationException {
        Matcher constant = CONSTANT.matcher(line);
        if (constant.matches()) {
            constants++;
            Due.is(line, due(constant.group(1)), Integer.parseInt(constant.group(2)));
        }
    }

    private int answer(String name, String numbers) throws ReflectiveOperationException {
        String[] texts = numbers.isEmpty() ? new String[0] : numbers.split(", ");
        Class<?>[] types = new Class<?>[texts.length];
        Object[] values = new Object[texts.length];
        for (int i = 0; i < texts.length; i++) {
            types[i] = int.class;
            values[i] = Integer.valueOf(texts[i]);
        }
        return (Integer) GoldenKeeper.class.getMethod(name, types).invoke(x, values);
    }

    private static int due(String text) throws ReflectiveOperationException {
        if (Character.isLetter(text.charAt(0))) {
            return GoldenKeeper.class.getField(text).getInt(null);
        }
        return Integer.parseInt(text);
    }

    private static Set<String> face() {
        Set<String> names = new TreeSet<>();
        for (Method m : GoldenKeeper.class.getDeclaredMethods()) {
            if (Modifier.isPublic(m.getModifiers())) {
                names.add(m.getName());
            }
        }
        return names;
    }

    private ReadmeTest() { }
}

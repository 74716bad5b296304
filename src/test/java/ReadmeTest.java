import java.io.IOException;
import java.lang.reflect.Method;
import java.nio.file.Files;
import java.nio.file.Path;
import java.util.regex.Matcher;
import java.util.regex.Pattern;

/** The calls that README.md shows, made one after the other, must answer what stands behind them there. */
public final class ReadmeTest {
    private static final Pattern SHOWN = Pattern.compile(
        "(?:union\\.)?(\\w+)\\((.*)\\); +// (-?\\d+|[A-Z]+|\".*\").*");
    private static final int LEAST_CALLS = 20;

    public static void main(String[] args) throws IOException, ReflectiveOperationException {
        JesterUnion union = new JesterUnion();
        int calls = 0;
        for (String row : Files.readAllLines(Path.of("README.md"))) {
            Matcher shown = SHOWN.matcher(row);
            if (shown.matches()) {
                Due.dueText(row, answer(union, shown.group(1), shown.group(2)), due(shown.group(3)));
                calls++;
            }
        }
        Due.due("README.md shows calls", calls >= LEAST_CALLS ? 1 : 0, 1);
        Due.finish();
    }

    private static String due(String shown) throws ReflectiveOperationException {
        boolean isCode = Character.isUpperCase(shown.charAt(0));
        return isCode ? String.valueOf(JesterUnion.class.getField(shown).getInt(null)) : shown;
    }

    private static String answer(JesterUnion union, String name, String numbers) throws ReflectiveOperationException {
        if (name.equals("line")) {
            return '"' + Due.line(union) + '"';
        }
        if (name.equals("run")) {
            return String.valueOf(Due.run(union, numbers.substring(numbers.indexOf('"') + 1, numbers.length() - 1)));
        }
        return String.valueOf(called(name).invoke(union, parts(numbers)));
    }

    private static Method called(String name) throws NoSuchMethodException {
        for (Method method : JesterUnion.class.getMethods()) {
            if (method.getName().equals(name)) {
                return method;
            }
        }
        throw new NoSuchMethodException(name);
    }

    private static Object[] parts(String numbers) {
        if (numbers.isEmpty()) {
            return new Object[0];
        }
        String[] words = numbers.split(", ");
        Object[] parts = new Object[words.length];
        for (int i = 0; i < words.length; i++) {
            boolean isTruth = words[i].equals("true") || words[i].equals("false");
            parts[i] = isTruth ? (Object) Boolean.valueOf(words[i]) : (Object) Integer.valueOf(words[i]);
        }
        return parts;
    }
}

import java.io.IOException;
import java.lang.reflect.Method;
import java.lang.reflect.Modifier;
import java.nio.file.Files;
import java.nio.file.Path;
import java.util.regex.Matcher;
import java.util.regex.Pattern;

/** The example of README.md, call by call, against the answers that it tells; and that it names every call. */
public final class ReadmeTest {
    private static final Pattern ROW = Pattern.compile("(?m)^x\\.(\\w+)\\(([^)]*)\\);\\s*// ([-\\w]+)");

    public static void main(String[] args) throws IOException, ReflectiveOperationException {
        String readme = Files.readString(Path.of("README.md"));
        example(readme);
        everyCallIsNamed(readme);
        Checks.finish("ReadmeTest");
    }

    private static void example(String readme) throws ReflectiveOperationException {
        SharedSleeves x = new SharedSleeves();
        Matcher row = ROW.matcher(readme);
        int rows = 0;
        while (row.find()) {
            Method call = callOf(row.group(1));
            Object got = call.invoke(x, numbers(call, row.group(2)));
            Checks.due("README: " + row.group(1) + "(" + row.group(2) + ")", answerOf(row.group(3)), (Integer) got);
            rows++;
        }
        long calls = readme.lines().filter(line -> line.startsWith("x.")).count();
        Checks.due("README: rows of the example that tell their answer", calls, rows);
        Checks.due("README: there is an example", 1, rows > 0 ? 1 : 0);
    }

    private static void everyCallIsNamed(String readme) {
        for (Method m : SharedSleeves.class.getDeclaredMethods()) {
            if (Modifier.isPublic(m.getModifiers())) {
                Checks.due("README names " + m.getName(), 1, readme.contains("`" + m.getName() + "`") ? 1 : 0);
            }
        }
    }

    private static Method callOf(String name) {
        for (Method m : SharedSleeves.class.getDeclaredMethods()) {
            if (m.getName().equals(name) && Modifier.isPublic(m.getModifiers())) {
                return m;
            }
        }
        throw new IllegalArgumentException("README calls " + name);
    }

    private static Object[] numbers(Method call, String told) {
        Class<?>[] types = call.getParameterTypes();
        String[] words = told.isEmpty() ? new String[0] : told.split(", ");
        Object[] numbers = new Object[words.length];
        for (int i = 0; i < words.length; i++) {
            String word = words[i].endsWith("L") ? words[i].substring(0, words[i].length() - 1) : words[i];
            long number = Long.decode(word);
            numbers[i] = i < types.length && types[i] == long.class ? (Object) number : (Object) (int) number;
        }
        return numbers;
    }

    private static int answerOf(String told) throws ReflectiveOperationException {
        return Character.isLetter(told.charAt(0)) ? SharedSleeves.class.getField(told).getInt(null) : Integer.parseInt(told);
    }
}

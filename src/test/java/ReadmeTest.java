import java.io.IOException;
import java.lang.reflect.Method;
import java.lang.reflect.Modifier;
import java.nio.file.Files;
import java.nio.file.Path;
import java.util.Arrays;
import java.util.regex.Matcher;
import java.util.regex.Pattern;

/** The calls that README.md shows answer what it writes beside them, and it shows every call of the face. */
public final class ReadmeTest {
    private static final Pattern EXAMPLE = Pattern.compile("```java\\R(.*?)```", Pattern.DOTALL);
    private static final Pattern LINE = Pattern.compile("bench\\.(\\w+)\\(([^)]*)\\); +// ([^:]+): .+");

    public static void main(String[] args) throws IOException, ReflectiveOperationException {
        Due due = new Due();
        String readme = Files.readString(Path.of(args[2]));
        Matcher example = EXAMPLE.matcher(readme);
        due.holds("README.md has an example", example.find());
        String[] lines = example.group(1).split("\\R");
        due.holds("it begins with a new bench", lines[0].equals("RollBench bench = new RollBench();"));
        RollBench bench = new RollBench();
        for (int k = 1; k < lines.length; k++) {
            ask(due, bench, lines[k]);
        }
        for (Method method : RollBench.class.getDeclaredMethods()) {
            if (Modifier.isPublic(method.getModifiers())) {
                due.holds("README.md shows " + method.getName(),
                    example.group(1).contains("bench." + method.getName() + "("));
            }
        }
        due.end();
    }

    private static void ask(Due due, RollBench bench, String line) throws ReflectiveOperationException {
        Matcher written = LINE.matcher(line);
        due.holds("it is a call with its answer: " + line, written.matches());
        Object[] numbers = Arrays.stream(written.group(2).split(", ")).map(Integer::valueOf).toArray();
        Class<?>[] types = new Class<?>[numbers.length];
        Arrays.fill(types, int.class);
        Object got = RollBench.class.getMethod(written.group(1), types).invoke(bench, numbers);
        due.is(line, (Integer) got, answer(written.group(3)));
    }

    private static int answer(String written) throws ReflectiveOperationException {
        String own = "RollBench.";
        return written.startsWith(own)
            ? RollBench.class.getField(written.substring(own.length())).getInt(null)
            : Integer.parseInt(written);
    }
}

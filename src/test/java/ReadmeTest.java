import java.io.IOException;
import java.lang.reflect.Method;
import java.lang.reflect.Modifier;
import java.nio.file.Files;
import java.nio.file.Path;
import java.util.Arrays;
import java.util.regex.Matcher;
import java.util.regex.Pattern;

/** Asks the calls of README.md's example in their order; each line's comment begins with the answer. */
public final class ReadmeTest {
    private static final Pattern LINE = Pattern.compile("(?m)^x\\.(\\w+)\\(([-\\d, ]*)\\); +// (-?\\d+)\\b");
    private static final int LEAST_LINES = 20;

    private static int wrong = 0;

    private static void check(boolean right, String otherwise) {
        if (!right) {
            wrong++;
            System.out.println(otherwise);
        }
    }

    private static long ask(MeshSums x, String name, String numbers) throws ReflectiveOperationException {
        Object[] given = Arrays.stream(numbers.split(", *")).filter(text -> !text.isEmpty()).map(Integer::valueOf).toArray();
        Class<?>[] types = new Class<?>[given.length];
        Arrays.fill(types, int.class);
        return ((Number) MeshSums.class.getMethod(name, types).invoke(x, given)).longValue();
    }

    private static void example(String text) throws ReflectiveOperationException {
        MeshSums x = new MeshSums();
        int lines = 0;
        Matcher line = LINE.matcher(text);
        while (line.find()) {
            lines++;
            long got = ask(x, line.group(1), line.group(2));
            check(got == Long.parseLong(line.group(3)), line.group() + " is told, but " + got + " is answered");
        }
        check(lines >= LEAST_LINES, "only " + lines + " lines of the example could be read");
    }

    private static void names(String text) {
        for (Method method : MeshSums.class.getDeclaredMethods()) {
            boolean named = Modifier.isPrivate(method.getModifiers()) || text.contains("`" + method.getName() + "`");
            check(named, method.getName() + " is not named");
        }
        check(text.contains(".ci/run"), "how to run the tests is not told");
    }

    public static void main(String[] args) throws IOException, ReflectiveOperationException {
        String text = Files.readString(Path.of("README.md"));
        example(text);
        names(text);
        System.out.println(wrong == 0 ? "README.md is as the class answers" : wrong + " things are not as README.md tells");
        if (wrong != 0) {
            System.exit(1);
        }
    }
}

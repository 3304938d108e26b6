import java.io.IOException;
import java.lang.reflect.InvocationTargetException;
import java.lang.reflect.Method;
import java.lang.reflect.Modifier;
import java.nio.file.Files;
import java.nio.file.Path;
import java.util.ArrayList;
import java.util.Arrays;
import java.util.List;
import java.util.regex.Matcher;
import java.util.regex.Pattern;

/** README.md: its example answers what it says, and it tells of each call with its exceptions. */
public final class ReadmeTest {
    private static final Pattern CALL = Pattern.compile("x\\.(\\w+)\\(([-\\d, ]*)\\)");

    public static void main(String[] args) throws IOException, ReflectiveOperationException {
        Check check = new Check();
        String readme = Files.readString(Path.of("README.md"));
        example(check, readme);
        everyCall(check, readme);
        check.finish();
    }

    /** Behind the calls of a line stand their answers, and behind a colon what they mean. */
    private static void example(Check check, String readme) throws ReflectiveOperationException {
        Matcher block = Pattern.compile("(?s)```java\n(.*?)```").matcher(readme);
        check.same("there is an example", block.find(), true);
        Face x = new Counted();
        int lines = 0;
        for (String line : block.group(1).split("\n")) {
            if (line.startsWith("x.")) {
                lines++;
                String[] parts = line.split("//");
                List<String> got = answers(x, parts[0]);
                check.same(line, String.join(", ", got), parts[1].split(":")[0].trim());
            }
        }
        check.same("it has lines", lines > 0, true);
    }

    private static List<String> answers(Face x, String calls) throws ReflectiveOperationException {
        List<String> got = new ArrayList<>();
        Matcher call = CALL.matcher(calls);
        while (call.find()) {
            String[] texts = call.group(2).split(",");
            Object[] arguments = Arrays.stream(texts).map(text -> Integer.valueOf(text.trim())).toArray();
            Class<?>[] types = new Class<?>[arguments.length];
            Arrays.fill(types, int.class);
            got.add(answer(x, Face.class.getMethod(call.group(1), types), arguments));
        }
        return got;
    }

    private static String answer(Face x, Method method, Object[] arguments) throws ReflectiveOperationException {
        try {
            return String.valueOf(method.invoke(x, arguments));
        } catch (InvocationTargetException thrown) {
            return thrown.getCause().getClass().getSimpleName();
        }
    }

    private static void everyCall(Check check, String readme) {
        for (Method method : MergeRows.class.getDeclaredMethods()) {
            if (Modifier.isPublic(method.getModifiers())) {
                Matcher told = Pattern.compile("\\| `(int|void) " + method.getName() + "\\(.*").matcher(readme);
                boolean found = told.find();
                check.same("the README tells of " + method.getName(), found, true);
                for (Class<?> thrown : method.getExceptionTypes()) {
                    String name = thrown.getSimpleName();
                    check.same(method.getName() + " with " + name, found && told.group().contains(name), true);
                }
            }
        }
    }
}

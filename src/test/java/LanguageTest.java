import java.io.IOException;
import java.lang.reflect.Executable;
import java.lang.reflect.Field;
import java.lang.reflect.Modifier;
import java.nio.file.Files;
import java.nio.file.Path;
import java.util.ArrayList;
import java.util.List;
import java.util.Set;
import java.util.regex.Matcher;
import java.util.regex.Pattern;

/** The rules of LANGUAGE.md that a program can look at; it is run in the project's directory, as .ci/run does. */
public final class LanguageTest {
    private static final Path SOURCE = Path.of("src/main/java/MergeRows.java");
    private static final Set<String> EXCEPTIONS = Set.of("IllegalStateException", "IllegalArgumentException",
            "IndexOutOfBoundsException", "ArithmeticException", "UnsupportedOperationException",
            "NoSuchElementException", "RuntimeException");

    public static void main(String[] args) throws IOException {
        Check check = new Check();
        String code = withoutComments(Files.readString(SOURCE));
        words(check, code);
        exceptions(check, code);
        staticFields(check);
        sizes(check);
        check.finish();
    }

    private static String withoutComments(String source) {
        return source.replaceAll("(?s)/\\*.*?\\*/", "").replaceAll("//[^\n]*", "");
    }

    /** Rules 1 to 4, 6 and 13: no library but Math's over ints, nothing caught, no lambda, no text joined. */
    private static void words(Check check, String code) {
        String[] never = {"\\bimport\\b", "\\bpackage\\b", "\\btry\\b", "\\bcatch\\b", "\\bfinally\\b",
            "\\bsynchronized\\b", "\\bassert\\b", "\\binstanceof\\b", "->", "::", "Exact\\b", "\\bSystem\\b",
            "\\bThread\\b", "\\bdouble\\b", "\\bfloat\\b", "\\bstatic\\s*\\{", "@"};
        for (String word : never) {
            check.same(word, Pattern.compile(word).matcher(code).find(), false);
        }
        Matcher library = Pattern.compile("\\bMath\\.(\\w+)").matcher(code);
        while (library.find()) {
            check.same(library.group(), Set.of("max", "min", "abs").contains(library.group(1)), true);
        }
    }

    /** Rule 6: each throw makes one of the named exceptions with a written text or none. */
    private static void exceptions(Check check, String code) {
        Matcher thrown = Pattern.compile("\\bthrow\\b([^;]*);").matcher(code);
        while (thrown.find()) {
            Matcher made = Pattern.compile("new (\\w+)\\((\"[^\"]*\")?\\)").matcher(thrown.group(1).trim());
            check.same(thrown.group(), made.matches() && EXCEPTIONS.contains(made.group(1)), true);
        }
    }

    private static List<Class<?>> classes() {
        List<Class<?>> all = new ArrayList<>();
        all.add(MergeRows.class);
        all.addAll(List.of(MergeRows.class.getDeclaredClasses()));
        return all;
    }

    /** Rule 5: static fields are final, and here ints. */
    private static void staticFields(Check check) {
        for (Class<?> one : classes()) {
            for (Field field : one.getDeclaredFields()) {
                if (Modifier.isStatic(field.getModifiers())) {
                    check.same(field.toString(), Modifier.isFinal(field.getModifiers()), true);
                    check.same(field.toString(), field.getType(), int.class);
                }
            }
        }
    }

    /** Rule 11: up to seven parameters, some twelve classes, some twenty fields in each. */
    private static void sizes(Check check) {
        check.same("classes", classes().size() <= 12, true);
        for (Class<?> one : classes()) {
            int fields = 0;
            for (Field field : one.getDeclaredFields()) {
                fields += Modifier.isStatic(field.getModifiers()) ? 0 : 1;
            }
            check.same("fields of " + one, fields <= 20, true);
            List<Executable> made = new ArrayList<>(List.of(one.getDeclaredMethods()));
            made.addAll(List.of(one.getDeclaredConstructors()));
            for (Executable method : made) {
                check.same(method.toString(), method.getParameterCount() <= 7, true);
            }
        }
    }
}

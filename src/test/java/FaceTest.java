import java.lang.reflect.Constructor;
import java.lang.reflect.Field;
import java.lang.reflect.Method;
import java.lang.reflect.Modifier;
import java.util.Set;
import java.util.TreeSet;

/** The public face: the document's members with their exceptions, and no other. */
public final class FaceTest {
    private static final String[] METHODS = {
        "int put(int,int) IllegalArgumentException UnsupportedOperationException",
        "void clear(int) IllegalArgumentException",
        "int size(int) IllegalArgumentException",
        "int get(int,int) IllegalArgumentException IndexOutOfBoundsException",
        "int common(int,int) IllegalArgumentException",
        "int pair(int,int) IndexOutOfBoundsException",
        "int hunks(int,int) IllegalArgumentException",
        "int hunk(int,int) IndexOutOfBoundsException",
        "int merge(int,int,int,int) IllegalArgumentException UnsupportedOperationException",
        "int conflict(int,int) IndexOutOfBoundsException",
        "int patch(int,int,int,int) IllegalArgumentException UnsupportedOperationException",
        "int commit(int) IllegalArgumentException UnsupportedOperationException",
        "int origin(int,int) IllegalArgumentException IndexOutOfBoundsException",
    };

    public static void main(String[] args) {
        Check check = new Check();
        check.same("NONE", MergeRows.NONE, -1);
        check.same("class", Modifier.toString(MergeRows.class.getModifiers()), "public final");

        Set<String> methods = new TreeSet<>();
        Set<String> publicNames = new TreeSet<>();
        for (Method method : MergeRows.class.getDeclaredMethods()) {
            if (!Modifier.isPrivate(method.getModifiers())) {
                check.same(method.getName(), Modifier.toString(method.getModifiers()), "public");
                methods.add(told(method));
                publicNames.add(method.getName());
            }
        }
        check.same("methods", methods, new TreeSet<>(Set.of(METHODS)));
        for (Method method : MergeRows.class.getDeclaredMethods()) {
            if (Modifier.isPrivate(method.getModifiers())) {
                check.same(method.getName() + " bears a public name", publicNames.contains(method.getName()), false);
            }
        }

        for (Field field : MergeRows.class.getDeclaredFields()) {
            String due = field.getName().equals("NONE") ? "public static final" : "private";
            check.same(field.getName(), Modifier.toString(field.getModifiers()).startsWith(due), true);
        }
        Constructor<?>[] constructors = MergeRows.class.getDeclaredConstructors();
        check.same("constructors", constructors.length, 1);
        check.same("constructor", Modifier.toString(constructors[0].getModifiers()), "public");
        check.same("its parameters", constructors[0].getParameterCount(), 0);
        check.finish();
    }

    private static String told(Method method) {
        StringBuilder text = new StringBuilder(method.getReturnType() + " " + method.getName() + "(");
        for (int k = 0; k < method.getParameterCount(); k++) {
            text.append(k == 0 ? "" : ",").append(method.getParameterTypes()[k]);
        }
        text.append(")");
        for (Class<?> thrown : method.getExceptionTypes()) {
            text.append(" ").append(thrown.getSimpleName());
        }
        return text.toString();
    }
}

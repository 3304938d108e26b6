import java.lang.reflect.Constructor;
import java.lang.reflect.Field;
import java.lang.reflect.Method;
import java.lang.reflect.Modifier;
import java.util.Set;
import java.util.TreeSet;

/** The public face: the document's members with their exceptions, and no other. */
public final class FaceTest {
    private static final String[] METHODS = {
        "int put(int,int) IllegalArgumentException UnsupportedOperationException",
        "void clear(int) IllegalArgumentException",
        "int size(int) IllegalArgumentException",
        "int get(int,int) IllegalArgumentException IndexOutOfBoundsException",
        "int common(int,int) IllegalArgumentException",
        "int pair(int,int) IndexOutOfBoundsException",
        "int hunks(int,int) IllegalArgumentException",
        "int hunk(int,int) IndexOutOfBoundsException",
        "int merge(int,int,int,int) IllegalArgumentException UnsupportedOperationException",
        "int conflict(int,int) IndexOutOfBoundsException",
        "int patch(int,int,int,int) IllegalArgumentException UnsupportedOperationException",
        "int commit(int) IllegalArgumentException UnsupportedOperationException",
        "int origin(int,int) IllegalArgumentException IndexOutOfBoundsException",
    };

    public static void main(String[] args) {
        Check check = new Check();
        constant(check);
        theClass(check);
        methods(check);
        privateMethods(check);
        fields(check);
        constructor(check);
        classesInside(check);
        check.finish();
    }

    /** "`NONE = -1`: There is none.": known when a program that uses it is compiled, as a case must be. */
    private static void constant(Check check) {
        check.same("NONE", MergeRows.NONE, -1);
        switch (Integer.parseInt("-1")) {
            case MergeRows.NONE: check.same("its case", true, true); break;
            default: check.same("its case", false, true); break;
        }
    }

    /** "public final class MergeRows". */
    private static void theClass(Check check) {
        check.same("class", Modifier.toString(MergeRows.class.getModifiers()), "public final");
        check.same("without a package", MergeRows.class.getPackageName(), "");
        check.same("its superclass", MergeRows.class.getSuperclass(), Object.class);
        check.same("its interfaces", MergeRows.class.getInterfaces().length, 0);
    }

    private static void methods(Check check) {
        Set<String> methods = new TreeSet<>();
        for (Method method : MergeRows.class.getDeclaredMethods()) {
            if (!Modifier.isPrivate(method.getModifiers())) {
                check.same(method.getName(), Modifier.toString(method.getModifiers()), "public");
                methods.add(told(method));
            }
        }
        check.same("methods", methods, new TreeSet<>(Set.of(METHODS)));
    }

    private static void privateMethods(Check check) {
        Set<String> publicNames = new TreeSet<>();
        for (Method method : MergeRows.class.getMethods()) {
            publicNames.add(method.getName());
        }
        for (Method method : MergeRows.class.getDeclaredMethods()) {
            if (Modifier.isPrivate(method.getModifiers())) {
                check.same(method.getName() + " bears a public name", publicNames.contains(method.getName()), false);
            }
        }
    }

    private static void fields(Check check) {
        for (Field field : MergeRows.class.getDeclaredFields()) {
            String due = field.getName().equals("NONE") ? "public static final" : "private";
            check.same(field.getName(), Modifier.toString(field.getModifiers()).startsWith(due), true);
        }
    }

    private static void constructor(Check check) {
        Constructor<?>[] constructors = MergeRows.class.getDeclaredConstructors();
        check.same("constructors", constructors.length, 1);
        check.same("constructor", Modifier.toString(constructors[0].getModifiers()), "public");
        check.same("its parameters", constructors[0].getParameterCount(), 0);
        check.same("its exceptions", constructors[0].getExceptionTypes().length, 0);
    }

    private static void classesInside(Check check) {
        for (Class<?> inside : MergeRows.class.getDeclaredClasses()) {
            boolean seen = Modifier.isPublic(inside.getModifiers()) || Modifier.isProtected(inside.getModifiers());
            check.same(inside.getName() + " is seen", seen, false);
            check.same(inside.getName() + " is static", Modifier.isStatic(inside.getModifiers()), true);
        }
    }

    private static String told(Method method) {
        StringBuilder text = new StringBuilder(method.getReturnType() + " " + method.getName() + "(");
        for (int k = 0; k < method.getParameterCount(); k++) {
            text.append(k == 0 ? "" : ",").append(method.getParameterTypes()[k]);
        }
        text.append(")");
        for (Class<?> thrown : method.getExceptionTypes()) {
            text.append(" ").append(thrown.getSimpleName());
        }
        return text.toString();
    }
}

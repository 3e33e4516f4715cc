import java.lang.reflect.Constructor;
import java.lang.reflect.Field;
import java.lang.reflect.Method;
import java.lang.reflect.Modifier;
import java.util.Arrays;
import java.util.List;
import java.util.TreeSet;

/** The public face of the document, and rule 1 and 5 of LANGUAGE.md: nothing else can be seen, no static state. */
public final class FaceTest {
    private static final List<String> DUE = List.of(
            "int call(int, long) IllegalArgumentException UnsupportedOperationException",
            "int clear()",
            "int code(int, long) IllegalArgumentException IllegalStateException",
            "int empty()",
            "int told(int) IllegalArgumentException",
            "int value(long) IllegalStateException",
            "long cell(int) IndexOutOfBoundsException",
            "long emitted(int, boolean) IndexOutOfBoundsException");

    public static void main(String[] args) {
        if (EmitDesk.class.getModifiers() != (Modifier.PUBLIC | Modifier.FINAL)) {
            Check.fail("the class is not public and final alone");
        }
        methods();
        privateNames();
        constructors();
        fields();
        Check.end();
    }

    private static void methods() {
        TreeSet<String> seen = new TreeSet<>();
        for (Method method : EmitDesk.class.getDeclaredMethods()) {
            if (method.isSynthetic() || Modifier.isPrivate(method.getModifiers())) {
                continue;
            }
            if (method.getModifiers() != Modifier.PUBLIC) {
                Check.fail(method + " is not public alone");
            }
            seen.add(written(method));
        }
        if (!List.copyOf(seen).equals(DUE)) {
            Check.fail("the methods are " + seen + ", due are " + DUE);
        }
    }

    /** "No private method bears the name of a public one." (rule 1) */
    private static void privateNames() {
        for (Method method : EmitDesk.class.getDeclaredMethods()) {
            String name = " " + method.getName() + "(";
            if (Modifier.isPrivate(method.getModifiers()) && DUE.toString().contains(name)) {
                Check.fail(method + " bears the name of a public one");
            }
        }
    }

    private static String written(Method method) {
        String takes = Arrays.toString(method.getParameterTypes());
        StringBuilder text = new StringBuilder();
        text.append(method.getReturnType()).append(' ').append(method.getName());
        text.append('(').append(takes, 1, takes.length() - 1).append(')');
        for (Class<?> thrown : method.getExceptionTypes()) {
            text.append(' ').append(thrown.getSimpleName());
        }
        return text.toString();
    }

    private static void constructors() {
        Constructor<?>[] all = EmitDesk.class.getDeclaredConstructors();
        Check.same("constructors", all.length, 1);
        Check.same("what the constructor takes", all[0].getParameterCount(), 0);
        Check.same("the constructor is public", all[0].getModifiers(), Modifier.PUBLIC);
    }

    private static void fields() {
        for (Field field : EmitDesk.class.getDeclaredFields()) {
            int modifiers = field.getModifiers();
            if (!Modifier.isPrivate(modifiers)) {
                Check.fail(field + " is not private");
            }
            if (Modifier.isStatic(modifiers) && !Modifier.isFinal(modifiers)) {
                Check.fail(field + " is static and not final");
            }
        }
    }
}

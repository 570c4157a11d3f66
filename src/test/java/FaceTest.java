import java.lang.reflect.Constructor;
import java.lang.reflect.Field;
import java.lang.reflect.Method;
import java.lang.reflect.Modifier;
import java.util.Arrays;
import java.util.TreeSet;

/** The public face, word for word, and nothing else that can be seen from outside. */
public final class FaceTest {
    private static final String[] DUE = {
        "int begin()",
        "int load() throws IllegalArgumentException, IllegalStateException",
        "int setValue(int, int) throws IndexOutOfBoundsException, IllegalStateException, IllegalArgumentException",
        "int setRail(int) throws IllegalArgumentException",
        "int drop(int) throws IndexOutOfBoundsException",
        "int sweep(int, int) throws IndexOutOfBoundsException, IllegalStateException, IllegalArgumentException",
        "int undo() throws IllegalStateException",
        "int keep(int) throws IndexOutOfBoundsException",
        "int back(int) throws IndexOutOfBoundsException, IllegalStateException",
        "int append(int) throws IllegalArgumentException, IllegalStateException",
        "int clearInput()",
        "int firstError()",
        "long voltage(int, int) throws IndexOutOfBoundsException, IllegalArgumentException",
        "long current(int, int) throws IndexOutOfBoundsException, IllegalStateException, IllegalArgumentException",
        "int amplifier(int, int) throws IndexOutOfBoundsException, IllegalArgumentException",
        "int why(int) throws IndexOutOfBoundsException",
        "int concerned(int) throws IndexOutOfBoundsException",
        "long inCase(int, int, int) throws IndexOutOfBoundsException, IllegalArgumentException",
        "int trip(int, boolean) throws IndexOutOfBoundsException, IllegalStateException",
        "int ifValue(int, int) throws IndexOutOfBoundsException, IllegalStateException, IllegalArgumentException",
        "int part(int, int) throws IndexOutOfBoundsException, IllegalArgumentException",
        "int count(int) throws IllegalArgumentException",
        "double meanVoltage()",
        "long digest()",
    };

    public static void main(String[] args) {
        Class<?> face = AmplifierDesk.class;
        Check.equal("public final class", face.getModifiers(), Modifier.PUBLIC | Modifier.FINAL);
        Check.equal("NONE", AmplifierDesk.NONE, -1);
        Check.equal("methods", publicMethods(face).toString(), new TreeSet<>(Arrays.asList(DUE)).toString());
        Check.equal("constructors", constructors(face), "public no parameters;");
        Check.equal("fields", visibleFields(face), "public static final int NONE;");
        for (Class<?> inner : face.getDeclaredClasses()) {
            boolean hidden = (inner.getModifiers() & (Modifier.PUBLIC | Modifier.PROTECTED)) == 0;
            Check.equal(inner + " is not public", hidden ? 1 : 0, 1);
            Check.equal(inner + " is static", Modifier.isStatic(inner.getModifiers()) ? 1 : 0, 1);
            Check.equal(inner + " has at most 20 fields", Math.max(20, inner.getDeclaredFields().length), 20);
        }
        Check.equal("at most 12 classes", Math.max(12, face.getDeclaredClasses().length), 12);
        Check.end();
    }

    private static TreeSet<String> publicMethods(Class<?> face) {
        TreeSet<String> methods = new TreeSet<>();
        TreeSet<String> names = new TreeSet<>();
        for (Method method : face.getDeclaredMethods()) {
            if (Modifier.isPrivate(method.getModifiers()) || method.isSynthetic()) {
                continue;
            }
            Check.equal(method + " is just public", method.getModifiers(), Modifier.PUBLIC);
            names.add(method.getName());
            methods.add(method.getReturnType() + " " + method.getName() + list("(", method.getParameterTypes(), ")")
                    + list(" throws ", method.getExceptionTypes(), ""));
        }
        for (Method method : face.getDeclaredMethods()) {
            if (Modifier.isPrivate(method.getModifiers())) {
                Check.equal("private " + method.getName(), names.contains(method.getName()) ? 1 : 0, 0);
            }
        }
        for (Class<?> inner : face.getDeclaredClasses()) {
            for (Method method : inner.getDeclaredMethods()) {
                Check.equal(inner + ", " + method.getName(), names.contains(method.getName()) ? 1 : 0, 0);
            }
        }
        return methods;
    }

    private static String list(String before, Class<?>[] types, String after) {
        if (types.length == 0 && after.isEmpty()) {
            return "";
        }
        StringBuilder text = new StringBuilder(before);
        for (int i = 0; i < types.length; i++) {
            text.append(i == 0 ? "" : ", ").append(types[i].getSimpleName());
        }
        return text.append(after).toString();
    }

    private static String constructors(Class<?> face) {
        StringBuilder text = new StringBuilder();
        for (Constructor<?> constructor : face.getDeclaredConstructors()) {
            text.append(Modifier.toString(constructor.getModifiers()));
            text.append(constructor.getParameterCount() == 0 ? " no parameters;" : " parameters;");
        }
        return text.toString();
    }

    private static String visibleFields(Class<?> face) {
        StringBuilder text = new StringBuilder();
        for (Field field : face.getDeclaredFields()) {
            if (!Modifier.isPrivate(field.getModifiers())) {
                text.append(Modifier.toString(field.getModifiers())).append(' ');
                text.append(field.getType()).append(' ').append(field.getName()).append(';');
            }
        }
        return text.toString();
    }
}

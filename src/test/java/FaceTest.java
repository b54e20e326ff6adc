import java.lang.reflect.Constructor;
import java.lang.reflect.Field;
import java.lang.reflect.Method;
import java.lang.reflect.Modifier;
import java.util.Set;
import java.util.TreeSet;

/** "The public face", and rule 1 of LANGUAGE.md: the class shows all of it and nothing else. */
public final class FaceTest {
    private static final String[] METHODS = {
        "public void code(int f, int i, int op, int a, int b, int c) throws IllegalArgumentException;",
        "public void number(int g, int v) throws IllegalArgumentException;",
        "public void move(int g, int h) throws IllegalArgumentException;",
        "public int make(int g, int function) throws IllegalArgumentException, IllegalStateException;",
        "public void set(int t, int k, int v) throws IllegalArgumentException, IllegalStateException, "
            + "UnsupportedOperationException;",
        "public long get(int t, int k, int to) throws IllegalArgumentException, IllegalStateException, "
            + "UnsupportedOperationException;",
        "public void meta(int t, int m) throws IllegalArgumentException, UnsupportedOperationException;",
        "public long resume(int g, int v, int to) throws IllegalArgumentException, IllegalStateException, "
            + "UnsupportedOperationException;",
        "public int collect(int n) throws IllegalArgumentException;",
        "public int full();",
        "public long global(int g) throws IllegalArgumentException;",
        "public int object(int n, int what) throws IllegalArgumentException, java.util.NoSuchElementException;",
        "public long inside(int n, int i, boolean value) throws IllegalArgumentException, "
            + "java.util.NoSuchElementException;",
        "public int count(int what);",
    };

    public static void main(String[] args) {
        Check check = new Check("FaceTest");
        Class<?> face = TriColourMachine.class;
        check.sentence("public final class TriColourMachine {");
        check.same("public and final", Modifier.PUBLIC | Modifier.FINAL, face.getModifiers());
        check.holds("it extends nothing", face.getSuperclass() == Object.class);
        check.same("it implements nothing", 0, face.getInterfaces().length);
        check.sentence("public TriColourMachine();");
        constructors(check, face);
        methods(check, face);
        hidden(check, face);
        check.end();
    }

    private static void constructors(Check check, Class<?> face) {
        Constructor<?>[] all = face.getDeclaredConstructors();
        check.same("constructors", 1, all.length);
        check.same("its parameters", 0, all[0].getParameterCount());
        check.same("what it throws", 0, all[0].getExceptionTypes().length);
        check.holds("it is public", Modifier.isPublic(all[0].getModifiers()));
    }

    private static void methods(Check check, Class<?> face) {
        Set<String> shown = new TreeSet<>();
        for (Method method : face.getDeclaredMethods()) {
            if (!Modifier.isPrivate(method.getModifiers())) {
                shown.add(written(method));
            }
        }
        for (String method : METHODS) {
            check.sentence(method);
            check.holds("it is shown", shown.remove(withoutNames(method)));
        }
        check.holds("not in the document: " + shown, shown.isEmpty());
    }

    private static void hidden(Check check, Class<?> face) {
        for (Field field : face.getDeclaredFields()) {
            check.holds("field " + field.getName() + " is private", Modifier.isPrivate(field.getModifiers()));
            check.holds("field " + field.getName() + " is final", Modifier.isFinal(field.getModifiers()));
        }
        for (Class<?> nested : face.getDeclaredClasses()) {
            check.holds(nested + " is static", Modifier.isStatic(nested.getModifiers()));
            check.holds(nested + " is hidden", !Modifier.isPublic(nested.getModifiers()));
        }
        Set<String> names = new TreeSet<>();
        for (String method : METHODS) {
            names.add(method.replaceAll("\\(.*", "").replaceAll(".* ", ""));
        }
        for (Method method : face.getDeclaredMethods()) {
            if (Modifier.isPrivate(method.getModifiers())) {
                check.holds(method.getName() + " is no public name", !names.contains(method.getName()));
            }
        }
    }

    /** Java keeps the types of the parameters, not their names. */
    private static String withoutNames(String method) {
        return method.replaceAll("\\b(int|boolean) \\w+([,)])", "$1$2").replace("java.util.", "");
    }

    private static String written(Method method) {
        return Modifier.toString(method.getModifiers()) + " " + method.getReturnType().getName() + " "
            + method.getName() + "(" + names(method.getParameterTypes()) + ")"
            + (method.getExceptionTypes().length == 0 ? "" : " throws " + names(method.getExceptionTypes())) + ";";
    }

    private static String names(Class<?>[] types) {
        StringBuilder text = new StringBuilder();
        for (Class<?> type : types) {
            text.append(text.length() == 0 ? "" : ", ").append(type.getSimpleName());
        }
        return text.toString();
    }
}

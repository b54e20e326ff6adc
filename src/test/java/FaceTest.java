import java.lang.reflect.Constructor;
import java.lang.reflect.Field;
import java.lang.reflect.Method;
import java.lang.reflect.Modifier;
import java.util.Arrays;
import java.util.Set;
import java.util.TreeSet;

/** Rule 1 of LANGUAGE.md: the class shows the document's face, all of it and nothing else. */
public final class FaceTest {
    private static final String[] FACE = {
        "void code(int, int, int, int, int, int)",
        "void number(int, int)",
        "void move(int, int)",
        "int make(int, int)",
        "void set(int, int, int)",
        "long get(int, int, int)",
        "void meta(int, int)",
        "long resume(int, int, int)",
        "int collect(int)",
        "int full()",
        "long global(int)",
        "int object(int, int)",
        "long inside(int, int, boolean)",
        "int count(int)",
    };

    public static void main(String[] args) {
        Check check = new Check("FaceTest");
        Class<?> face = TriColourMachine.class;
        check.same("public and final", Modifier.PUBLIC | Modifier.FINAL, face.getModifiers());
        methods(check, face);
        constructors(check, face);
        for (Field field : face.getDeclaredFields()) {
            check.holds("field " + field.getName() + " is private", Modifier.isPrivate(field.getModifiers()));
            check.holds("field " + field.getName() + " is final", Modifier.isFinal(field.getModifiers()));
        }
        for (Class<?> nested : face.getDeclaredClasses()) {
            check.holds(nested + " is static", Modifier.isStatic(nested.getModifiers()));
            check.holds(nested + " is hidden", !Modifier.isPublic(nested.getModifiers()));
        }
        check.end();
    }

    private static void methods(Check check, Class<?> face) {
        Set<String> publicOnes = new TreeSet<>();
        Set<String> publicNames = new TreeSet<>();
        for (Method method : face.getDeclaredMethods()) {
            if (!Modifier.isPrivate(method.getModifiers())) {
                publicOnes.add(written(method));
                publicNames.add(method.getName());
            }
        }
        check.holds("the methods are " + publicOnes, publicOnes.equals(new TreeSet<>(Arrays.asList(FACE))));
        for (Method method : face.getDeclaredMethods()) {
            if (Modifier.isPrivate(method.getModifiers())) {
                check.holds(method.getName() + " is no public name", !publicNames.contains(method.getName()));
            }
        }
    }

    private static void constructors(Check check, Class<?> face) {
        Constructor<?>[] all = face.getDeclaredConstructors();
        check.same("constructors", 1, all.length);
        check.same("its parameters", 0, all[0].getParameterCount());
        check.holds("it is public", Modifier.isPublic(all[0].getModifiers()));
    }

    private static String written(Method method) {
        StringBuilder text = new StringBuilder();
        for (Class<?> parameter : method.getParameterTypes()) {
            text.append(text.length() == 0 ? "" : ", ").append(parameter.getName());
        }
        return method.getReturnType().getName() + " " + method.getName() + "(" + text + ")";
    }
}

import java.lang.reflect.Constructor;
import java.lang.reflect.Field;
import java.lang.reflect.Method;
import java.lang.reflect.Modifier;
import java.util.Arrays;
import java.util.Set;
import java.util.TreeSet;

/** The class has the document's face and nothing else that can be seen from outside. */
public final class FaceTest {
    private static final String[] METHODS = {
        "int generators()", "int size()", "int generator(int)", "boolean power(int,int)",
        "boolean conjugate(int,int,int)", "boolean fix()", "void release()", "boolean fixed()",
        "int product(int,int)", "int times(int,int)", "int conjugated(int,int)",
        "int commutator(int,int)", "int order(int)", "int clear(int)", "int join(int,int)",
        "int spread(int)", "int commute(int,int,int)", "int count(int)", "boolean has(int,int)",
        "int derived(int)", "int lower(int)", "int centre()", "int classes()", "int kin(int)",
        "int head(int)"
    };

    public static void main(String[] args) throws ReflectiveOperationException {
        Class<?> type = CollectedGroup.class;
        Check.due("public class", Modifier.isPublic(type.getModifiers()), true);
        Check.due("final class", Modifier.isFinal(type.getModifiers()), true);
        methods(type);
        constructors(type);
        fields(type);
        Check.end();
    }

    private static void methods(Class<?> type) {
        Set<String> due = new TreeSet<>(Arrays.asList(METHODS));
        Set<String> names = new TreeSet<>();
        for (String method : METHODS) {
            names.add(method.substring(method.indexOf(' ') + 1, method.indexOf('(')));
        }
        Set<String> found = new TreeSet<>();
        for (Method method : type.getDeclaredMethods()) {
            if (Modifier.isPrivate(method.getModifiers())) {
                Check.due("private " + method.getName(), names.contains(method.getName()), false);
            } else {
                found.add(signature(method));
                Check.due("public " + method.getName(), Modifier.isPublic(method.getModifiers()), true);
                Check.due("own " + method.getName(), Modifier.isStatic(method.getModifiers()), false);
            }
        }
        Check.due("methods " + found, found.equals(due), true);
    }

    private static String signature(Method method) {
        StringBuilder text = new StringBuilder(method.getReturnType().getName());
        text.append(' ').append(method.getName()).append('(');
        for (int k = 0; k < method.getParameterCount(); k++) {
            text.append(k > 0 ? "," : "").append(method.getParameterTypes()[k].getName());
        }
        return text.append(')').toString();
    }

    private static void constructors(Class<?> type) {
        Constructor<?>[] found = type.getDeclaredConstructors();
        Check.due("constructors", found.length, 1);
        Check.due("constructor", Modifier.isPublic(found[0].getModifiers()), true);
        Check.due("its argument", Arrays.equals(found[0].getParameterTypes(), new Class<?>[] {int.class}), true);
    }

    private static void fields(Class<?> type) throws ReflectiveOperationException {
        Field none = type.getDeclaredField("NONE");
        int wanted = Modifier.PUBLIC | Modifier.STATIC | Modifier.FINAL;
        Check.due("NONE's modifiers", none.getModifiers(), wanted);
        Check.due("NONE", none.getInt(null), -1);
        for (Field field : type.getDeclaredFields()) {
            boolean isPrivate = Modifier.isPrivate(field.getModifiers());
            Check.due("field " + field.getName(), isPrivate || field.equals(none), true);
        }
    }
}

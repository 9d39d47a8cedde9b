import java.lang.reflect.Field;
import java.lang.reflect.Method;
import java.lang.reflect.Modifier;
import java.util.Arrays;
import java.util.Set;
import java.util.TreeSet;

/** The public face is that of the document, and nothing more. */
public final class FaceTests {
    private static final String[] FACE = {
        "int append(int) IllegalArgumentException IllegalStateException",
        "int back() IllegalStateException",
        "int box(int,int) IndexOutOfBoundsException IllegalArgumentException",
        "int change(int,int) IndexOutOfBoundsException IllegalArgumentException",
        "int clearBuffer()",
        "int count(int) IllegalArgumentException",
        "int firstError()",
        "int fix(int) IndexOutOfBoundsException IllegalStateException",
        "int idle(int) IllegalArgumentException",
        "int ifSet(int,int) IndexOutOfBoundsException IllegalArgumentException",
        "int keep()",
        "int line(int,int) IndexOutOfBoundsException IllegalArgumentException",
        "int restore() IllegalStateException",
        "int set(int) IndexOutOfBoundsException IllegalStateException",
        "int sortedIn()",
        "int stopped(int) IllegalArgumentException",
        "int swap(int,int) IndexOutOfBoundsException",
        "int told(int) IllegalArgumentException",
        "int type(int,int) IndexOutOfBoundsException IllegalArgumentException",
        "int undo() IllegalStateException",
        "int whyNot(int) IndexOutOfBoundsException",
        "int work() IllegalArgumentException",
        "int wrongThen()",
        "double rightShare()",
        "long digest()",
    };

    public static void main(String[] args) throws Exception {
        Checks checks = new Checks("FaceTests");
        checks.same("the class is public and final", true,
                Modifier.isPublic(SortCases.class.getModifiers()) && Modifier.isFinal(SortCases.class.getModifiers()));
        checks.same("constructors", 1, SortCases.class.getDeclaredConstructors().length);
        checks.same("the constructor is public", true, Modifier.isPublic(SortCases.class.getConstructor().getModifiers()));
        checks.same("NONE", -1, SortCases.NONE);
        methodsAreThoseOfTheFace(checks);
        fieldsArePrivateButNone(checks);
        checks.end();
    }

    private static void methodsAreThoseOfTheFace(Checks checks) {
        Set<String> names = new TreeSet<>();
        Set<String> open = new TreeSet<>();
        for (Method method : SortCases.class.getDeclaredMethods()) {
            if (Modifier.isPublic(method.getModifiers())) {
                names.add(method.getName());
                open.add(told(method));
            } else {
                checks.same(method.getName() + " is private", true, Modifier.isPrivate(method.getModifiers()));
            }
        }
        checks.same("the face", new TreeSet<>(Arrays.asList(FACE)), open);
        for (Class<?> inner : SortCases.class.getDeclaredClasses()) {
            checks.same(inner.getName() + " is not public", false, Modifier.isPublic(inner.getModifiers()));
            checks.same(inner.getName() + " is static", true, Modifier.isStatic(inner.getModifiers()));
            for (Method method : inner.getDeclaredMethods()) {
                checks.same(method + " bears a name of the face", false, names.contains(method.getName()));
            }
        }
        for (Method method : SortCases.class.getDeclaredMethods()) {
            if (Modifier.isPrivate(method.getModifiers())) {
                checks.same(method + " bears a name of the face", false, names.contains(method.getName()));
            }
        }
    }

    private static String told(Method method) {
        StringBuilder text = new StringBuilder(method.getReturnType() + " " + method.getName() + "(");
        for (int i = 0; i < method.getParameterCount(); i++) {
            text.append(i > 0 ? "," : "").append(method.getParameterTypes()[i]);
        }
        text.append(")");
        for (Class<?> exception : method.getExceptionTypes()) {
            text.append(" ").append(exception.getSimpleName());
        }
        return text.toString();
    }

    private static void fieldsArePrivateButNone(Checks checks) {
        for (Field field : SortCases.class.getDeclaredFields()) {
            boolean isNone = field.getName().equals("NONE");
            checks.same(field.getName() + " is private", !isNone, Modifier.isPrivate(field.getModifiers()));
        }
    }
}

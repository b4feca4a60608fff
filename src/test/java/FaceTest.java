import java.lang.reflect.Constructor;
import java.lang.reflect.Field;
import java.lang.reflect.Method;
import java.lang.reflect.Modifier;
import java.util.Arrays;
import java.util.TreeSet;
import java.util.stream.Collectors;

/** The public face of the document, and nothing beside it that could be seen from outside. */
public final class FaceTest {
    private static final String[] FACE = {
        "boolean cable(int, int, boolean) IndexOutOfBounds",
        "int write(int, int, int, int) IndexOutOfBounds IllegalArgument IllegalState UnsupportedOperation",
        "int withdraw(int, int) IndexOutOfBounds NoSuchElement IllegalState UnsupportedOperation",
        "boolean decide(int) IndexOutOfBounds IllegalState UnsupportedOperation",
        "void giveUp(int) IndexOutOfBounds IllegalState UnsupportedOperation",
        "int resend(int) IndexOutOfBounds IllegalState UnsupportedOperation",
        "void unlock(int) IndexOutOfBounds IllegalState",
        "void ask(int, int) IndexOutOfBounds IllegalState UnsupportedOperation",
        "boolean stop(int) IndexOutOfBounds",
        "boolean start(int) IndexOutOfBounds",
        "int letters()",
        "int deliver(int) IndexOutOfBounds IllegalState UnsupportedOperation",
        "void lose(int) IndexOutOfBounds",
        "void twin(int) IndexOutOfBounds UnsupportedOperation",
        "int letter(int, int) IndexOutOfBounds IllegalArgument",
        "int count(int) IndexOutOfBounds",
        "int entry(int, int, boolean) IndexOutOfBounds NoSuchElement",
        "int about(int, int) IndexOutOfBounds IllegalArgument",
        "boolean allowed(int) IllegalArgument",
        "int inForce(int, int, int) IndexOutOfBounds",
    };

    private FaceTest() {
    }

    public static void main(String[] args) {
        Class<?> face = NoticeStations.class;
        Check.due("the class is", Modifier.toString(face.getModifiers()), "public final");
        Check.due("NONE", NoticeStations.NONE, -1);
        TreeSet<String> open = new TreeSet<>();
        TreeSet<String> openNames = new TreeSet<>();
        for (Method method : face.getDeclaredMethods()) {
            if (!Modifier.isPrivate(method.getModifiers()) && !method.isSynthetic()) {
                Check.due(method.getName() + " is", Modifier.toString(method.getModifiers()), "public");
                open.add(told(method));
                openNames.add(method.getName());
            }
        }
        Check.due("the methods are", open.toString(), new TreeSet<>(Arrays.asList(FACE)).toString());
        noHiddenNames(face, openNames);
        fieldsAndConstructors(face);
        Check.end();
    }

    private static String told(Method method) {
        String takes = Arrays.stream(method.getParameterTypes()).map(Class::getSimpleName)
                .collect(Collectors.joining(", "));
        String throwing = Arrays.stream(method.getExceptionTypes())
                .map(e -> " " + e.getSimpleName().replace("Exception", "")).collect(Collectors.joining());
        return method.getReturnType().getSimpleName() + " " + method.getName() + "(" + takes + ")" + throwing;
    }

    private static void noHiddenNames(Class<?> face, TreeSet<String> openNames) {
        for (Method method : face.getDeclaredMethods()) {
            boolean hidden = Modifier.isPrivate(method.getModifiers());
            Check.due("private " + method.getName() + " bears a public name",
                    hidden && openNames.contains(method.getName()), false);
        }
        for (Class<?> inside : face.getDeclaredClasses()) {
            Check.due(inside + " is static", Modifier.isStatic(inside.getModifiers()), true);
            Check.due(inside + " is public", Modifier.isPublic(inside.getModifiers()), false);
            Check.due(inside + " is protected", Modifier.isProtected(inside.getModifiers()), false);
        }
    }

    private static void fieldsAndConstructors(Class<?> face) {
        for (Field field : face.getDeclaredFields()) {
            String want = field.getName().equals("NONE") ? "public static final" : "private";
            Check.due(field + " is as due", Modifier.toString(field.getModifiers()).startsWith(want), true);
            boolean loose = Modifier.isStatic(field.getModifiers()) && !Modifier.isFinal(field.getModifiers());
            Check.due(field + " is static and not final", loose, false);
        }
        Constructor<?>[] made = face.getDeclaredConstructors();
        Check.due("constructors", made.length, 1);
        Check.due("the constructor", made[0].toString(), "public NoticeStations()");
    }
}

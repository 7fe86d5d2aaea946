import java.lang.reflect.Constructor;
import java.lang.reflect.Field;
import java.lang.reflect.Method;
import java.lang.reflect.Modifier;
import java.util.Arrays;
import java.util.TreeSet;

/** The public face: all that the document names, and nothing else. */
public final class FaceTest {
    private static final String[] FACE = {
        "boolean toggleBunker(int) IndexOutOfBoundsException IllegalStateException",
        "boolean sees(int, int) IndexOutOfBoundsException",
        "int view(int) IndexOutOfBoundsException",
        "int setReferee(int, int) IndexOutOfBoundsException",
        "void begin(int, int) IndexOutOfBoundsException IllegalArgumentException IllegalStateException",
        "int move(int, int) IndexOutOfBoundsException IllegalStateException",
        "int shoot(int, int) IndexOutOfBoundsException IllegalStateException",
        "int pass(int) IllegalArgumentException IllegalStateException",
        "int call(int, int) IndexOutOfBoundsException IllegalStateException",
        "boolean dispute(int) IndexOutOfBoundsException IllegalStateException",
        "int end() IllegalStateException",
        "int tick()",
        "int where(int) IndexOutOfBoundsException",
        "int hit(int) IndexOutOfBoundsException",
        "int flying()",
        "int points(int) IndexOutOfBoundsException",
        "int fines(int) IndexOutOfBoundsException",
        "int difference(int) IndexOutOfBoundsException",
        "int place(int) IndexOutOfBoundsException",
    };

    public static void main(String[] args) {
        Class<?> face = PaintballAtlas.class;
        Due.is("public", Modifier.isPublic(face.getModifiers()), true);
        Due.is("final", Modifier.isFinal(face.getModifiers()), true);
        methods(face);
        constructor(face);
        fields(face);
        insideClasses(face);
        Due.close("FaceTest");
    }

    private static void methods(Class<?> face) {
        TreeSet<String> due = new TreeSet<>(Arrays.asList(FACE));
        TreeSet<String> names = new TreeSet<>();
        for (Method method : face.getDeclaredMethods()) {
            if (Modifier.isPublic(method.getModifiers())) {
                names.add(method.getName());
                Due.is(written(method) + " is due", due.remove(written(method)), true);
            }
        }
        Due.is("missing " + due, due.size(), 0);
        for (Method method : face.getDeclaredMethods()) {
            boolean isPublic = Modifier.isPublic(method.getModifiers());
            boolean isPrivate = Modifier.isPrivate(method.getModifiers());
            Due.is(method + " is public or private", isPublic || isPrivate, true);
            Due.is(method + " has the name of a public one", isPrivate && names.contains(method.getName()), false);
        }
    }

    private static String written(Method method) {
        StringBuilder text = new StringBuilder(method.getReturnType() + " " + method.getName() + "(");
        for (Class<?> type : method.getParameterTypes()) {
            text.append(text.charAt(text.length() - 1) == '(' ? "" : ", ").append(type);
        }
        text.append(")");
        for (Class<?> type : method.getExceptionTypes()) {
            text.append(" ").append(type.getSimpleName());
        }
        return text.toString();
    }

    private static void constructor(Class<?> face) {
        Constructor<?>[] made = face.getDeclaredConstructors();
        Due.is("constructors", made.length, 1);
        Due.is("its arguments", made[0].getParameterCount(), 0);
        Due.is("it is public", Modifier.isPublic(made[0].getModifiers()), true);
    }

    private static void fields(Class<?> face) {
        for (Field field : face.getDeclaredFields()) {
            int modifiers = field.getModifiers();
            Due.is(field + " is private", Modifier.isPrivate(modifiers), true);
            Due.is(field + " is final", Modifier.isFinal(modifiers), true);
        }
    }

    private static void insideClasses(Class<?> face) {
        for (Class<?> inside : face.getDeclaredClasses()) {
            int modifiers = inside.getModifiers();
            Due.is(inside + " is static", Modifier.isStatic(modifiers), true);
            Due.is(inside + " is hidden", Modifier.isPublic(modifiers) || Modifier.isProtected(modifiers), false);
        }
    }
}

import java.lang.reflect.Constructor;
import java.lang.reflect.Field;
import java.lang.reflect.Method;
import java.lang.reflect.Modifier;
import java.util.ArrayList;
import java.util.List;
import java.util.Set;
import java.util.TreeSet;

/** The public face of the document, and those rules of LANGUAGE.md that show in the classes. */
public final class FaceTest {
    private static final String INDEX = " throws IndexOutOfBoundsException";
    private static final String STATE = " throws IllegalStateException";
    private static final String BOTH = " throws IllegalArgumentException, IllegalStateException";

    private static final Set<String> FACE = Set.of(
        "int row(int, int, int, int)" + STATE, "boolean change(int, int, int)",
        "boolean remove(int)", "int value(int, int)" + INDEX,
        "int order(int, int, int, int)" + BOTH, "boolean layer(int, int, int)",
        "boolean edge(int, int, int)" + BOTH, "int term(int, int, int)" + BOTH,
        "int condition(int, int, int)" + BOTH, "void free()", "int compare(int, int, int)" + INDEX,
        "int best(int)" + INDEX, "int grouped(int, int)" + INDEX,
        "int top(int, int)" + INDEX + ", IllegalArgumentException",
        "int level(int, int)" + INDEX, "int answer(int)", "int reason(int, int, int, int)" + INDEX,
        "int save(int, int)" + INDEX, "int saved(int, int, int)", "boolean read(int)",
        "int reduce(int)" + INDEX, "int form(int)" + INDEX);

    public static void main(String[] args) throws ReflectiveOperationException {
        classAndConstant();
        methods();
        Set<String> faceNames = faceNames();
        List<Class<?>> classes = new ArrayList<>(List.of(PreferTable.class.getDeclaredClasses()));
        for (Class<?> inside : classes) {
            Check.yes(inside + " is static", Modifier.isStatic(inside.getModifiers()));
            Check.yes(inside + " is not public", isHidden(inside.getModifiers()));
        }
        classes.add(PreferTable.class);
        Check.yes("some twelve classes at most", classes.size() <= 14);
        for (Class<?> each : classes) {
            fields(each);
            parameters(each, faceNames);
        }
        Check.end();
    }

    private static boolean isHidden(int modifiers) {
        return !Modifier.isPublic(modifiers) && !Modifier.isProtected(modifiers);
    }

    private static void classAndConstant() throws ReflectiveOperationException {
        int modifiers = PreferTable.class.getModifiers();
        Check.yes("public and final", Modifier.isPublic(modifiers) && Modifier.isFinal(modifiers));
        Constructor<?>[] constructors = PreferTable.class.getDeclaredConstructors();
        Check.same("one constructor", constructors.length, 1);
        Check.same("without parameters", constructors[0].getParameterCount(), 0);
        Check.same("that throws nothing", constructors[0].getExceptionTypes().length, 0);
        Check.yes("that is public", Modifier.isPublic(constructors[0].getModifiers()));
        for (Field field : PreferTable.class.getDeclaredFields()) {
            boolean isNone = field.getName().equals("NONE");
            Check.yes(field + " is private", isNone || Modifier.isPrivate(field.getModifiers()));
        }
        Field none = PreferTable.class.getField("NONE");
        Check.same("NONE", Modifier.toString(none.getModifiers()) + " " + none.getType() + " = "
            + none.getInt(null), "public static final int = -1");
    }

    private static void methods() {
        Set<String> found = new TreeSet<>();
        for (Method method : PreferTable.class.getDeclaredMethods()) {
            if (Modifier.isPublic(method.getModifiers())) {
                found.add(written(method));
                Check.no(method + " is static", Modifier.isStatic(method.getModifiers()));
            } else {
                Check.yes(method + " is private", Modifier.isPrivate(method.getModifiers()));
            }
        }
        Check.same("the face", found.toString(), new TreeSet<>(FACE).toString());
    }

    private static String written(Method method) {
        StringBuilder text = new StringBuilder(method.getReturnType().toString());
        text.append(' ').append(method.getName());
        text.append('(').append(listed(method.getParameterTypes())).append(')');
        if (method.getExceptionTypes().length > 0) {
            text.append(" throws ").append(listed(method.getExceptionTypes()));
        }
        return text.toString();
    }

    private static String listed(Class<?>[] types) {
        List<String> names = new ArrayList<>();
        for (Class<?> type : types) {
            names.add(type.getSimpleName());
        }
        return String.join(", ", names);
    }

    private static Set<String> faceNames() {
        Set<String> names = new TreeSet<>();
        for (String method : FACE) {
            names.add(method.substring(method.indexOf(' ') + 1, method.indexOf('(')));
        }
        return names;
    }

    private static void fields(Class<?> each) {
        int own = 0;
        for (Field field : each.getDeclaredFields()) {
            if (Modifier.isStatic(field.getModifiers())) {
                Check.yes(field + " is final", Modifier.isFinal(field.getModifiers()));
            } else {
                own++;
            }
        }
        Check.yes(each + " has some twenty fields at most", own <= 22);
    }

    private static void parameters(Class<?> each, Set<String> faceNames) {
        for (Method method : each.getDeclaredMethods()) {
            Check.yes(method + " takes at most seven", method.getParameterCount() <= 7);
            boolean isPrivate = Modifier.isPrivate(method.getModifiers());
            Check.yes(method + " has a name of its own",
                !isPrivate || !faceNames.contains(method.getName()));
        }
    }
}

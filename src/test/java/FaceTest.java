import java.lang.reflect.Constructor;
import java.lang.reflect.Field;
import java.lang.reflect.Method;
import java.lang.reflect.Modifier;
import java.util.ArrayList;
import java.util.List;
import java.util.Set;
import java.util.TreeSet;

/** The public face of the document, and those rules of LANGUAGE.md that show in the classes. */
public final class FaceTest {
    private static final String INDEX = " throws IndexOutOfBoundsException";
    private static final String STATE = " throws IllegalStateException";
    private static final String BOTH = " throws IllegalArgumentException, IllegalStateException";

    private static final Set<String> FACE = Set.of(
        "int row(4)" + STATE, "boolean change(3)", "boolean remove(1)", "int value(2)" + INDEX,
        "int order(4)" + BOTH, "boolean layer(3)", "boolean edge(3)" + BOTH, "int term(3)" + BOTH,
        "int condition(3)" + BOTH, "void free(0)", "int compare(3)" + INDEX, "int best(1)" + INDEX,
        "int grouped(2)" + INDEX, "int top(2)" + INDEX + ", IllegalArgumentException",
        "int level(2)" + INDEX, "int answer(1)", "int reason(4)" + INDEX, "int save(2)" + INDEX,
        "int saved(3)", "boolean read(1)", "int reduce(1)" + INDEX, "int form(1)" + INDEX);

    public static void main(String[] args) throws ReflectiveOperationException {
        classAndConstant();
        methods();
        Set<String> faceNames = faceNames();
        List<Class<?>> classes = new ArrayList<>(List.of(PreferTable.class.getDeclaredClasses()));
        for (Class<?> inside : classes) {
            Check.yes(inside + " is static", Modifier.isStatic(inside.getModifiers()));
            Check.yes(inside + " is not public", isHidden(inside.getModifiers()));
        }
        classes.add(PreferTable.class);
        Check.yes("some twelve classes at most", classes.size() <= 14);
        for (Class<?> each : classes) {
            fields(each);
            parameters(each, faceNames);
        }
        Check.end();
    }

    private static boolean isHidden(int modifiers) {
        return !Modifier.isPublic(modifiers) && !Modifier.isProtected(modifiers);
    }

    private static void classAndConstant() throws ReflectiveOperationException {
        int modifiers = PreferTable.class.getModifiers();
        Check.yes("public and final", Modifier.isPublic(modifiers) && Modifier.isFinal(modifiers));
        Constructor<?>[] constructors = PreferTable.class.getDeclaredConstructors();
        Check.same("one constructor", constructors.length, 1);
        Check.same("without parameters", constructors[0].getParameterCount(), 0);
        Check.yes("that is public", Modifier.isPublic(constructors[0].getModifiers()));
        for (Field field : PreferTable.class.getDeclaredFields()) {
            boolean isNone = field.getName().equals("NONE");
            Check.yes(field + " is private", isNone || Modifier.isPrivate(field.getModifiers()));
        }
        Field none = PreferTable.class.getField("NONE");
        Check.same("NONE", none.getInt(null), -1);
    }

    private static void methods() {
        Set<String> found = new TreeSet<>();
        for (Method method : PreferTable.class.getDeclaredMethods()) {
            if (Modifier.isPublic(method.getModifiers())) {
                found.add(written(method));
            } else {
                Check.yes(method + " is private", Modifier.isPrivate(method.getModifiers()));
            }
        }
        Check.same("the face", found.toString(), new TreeSet<>(FACE).toString());
    }

    private static String written(Method method) {
        StringBuilder text = new StringBuilder(method.getReturnType().toString());
        text.append(' ').append(method.getName());
        text.append('(').append(method.getParameterCount()).append(')');
        String before = " throws ";
        for (Class<?> thrown : method.getExceptionTypes()) {
            text.append(before).append(thrown.getSimpleName());
            before = ", ";
        }
        return text.toString();
    }

    private static Set<String> faceNames() {
        Set<String> names = new TreeSet<>();
        for (String method : FACE) {
            names.add(method.substring(method.indexOf(' ') + 1, method.indexOf('(')));
        }
        return names;
    }

    private static void fields(Class<?> each) {
        int own = 0;
        for (Field field : each.getDeclaredFields()) {
            if (Modifier.isStatic(field.getModifiers())) {
                Check.yes(field + " is final", Modifier.isFinal(field.getModifiers()));
            } else {
                own++;
            }
        }
        Check.yes(each + " has some twenty fields at most", own <= 22);
    }

    private static void parameters(Class<?> each, Set<String> faceNames) {
        for (Method method : each.getDeclaredMethods()) {
            Check.yes(method + " takes at most seven", method.getParameterCount() <= 7);
            boolean isPrivate = Modifier.isPrivate(method.getModifiers());
            Check.yes(method + " has a name of its own",
                !isPrivate || !faceNames.contains(method.getName()));
        }
    }
}

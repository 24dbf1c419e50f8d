import java.lang.reflect.Constructor;
import java.lang.reflect.Field;
import java.lang.reflect.Method;
import java.lang.reflect.Modifier;
import java.util.Arrays;
import java.util.Set;
import java.util.StringJoiner;
import java.util.TreeSet;

/** The face is the document's, and nothing else of the class can be seen (rule 1 of the language). */
public final class FaceTest {
    private static final String FIELD = Check.NO_SUCH;
    private static final String FIELD_ARGUMENT = FIELD + ", " + Check.ARGUMENT;
    private static final String ALL_FOUR = FIELD_ARGUMENT + ", " + Check.STATE + ", " + Check.UNSUPPORTED;

    private static final String[] FACE = {
        "int field(int, int, int) throws " + ALL_FOUR,
        "int value(int, int) throws " + ALL_FOUR,
        "int option(int, int) throws " + FIELD_ARGUMENT + ", " + Check.UNSUPPORTED,
        "int set(int, int, int) throws " + FIELD_ARGUMENT,
        "void bounds(int, long, long) throws " + FIELD_ARGUMENT,
        "int formula(int, int, int, int) throws " + FIELD_ARGUMENT,
        "int calculate()",
        "int failed(int) throws " + Check.INDEX,
        "int fails(int, boolean) throws " + FIELD_ARGUMENT,
        "int shown(int, int) throws " + FIELD,
        "int size(int) throws " + FIELD_ARGUMENT,
        "int validate(int) throws " + FIELD_ARGUMENT,
        "int appearance(int) throws " + FIELD_ARGUMENT,
        "int mark(int, int) throws " + Check.INDEX,
        "int flatten(int) throws " + ALL_FOUR,
        "int page(int, int) throws " + Check.INDEX,
        "int write()",
        "int at(int) throws " + Check.ARRAY_INDEX,
        "int read(int) throws " + Check.ARGUMENT + ", " + Check.UNSUPPORTED,
        "int lock(int, boolean) throws " + FIELD_ARGUMENT,
    };

    public static void main(String[] args) {
        Class<?> face = FormFields.class;
        Check.due(1, Modifier.isPublic(face.getModifiers()) && Modifier.isFinal(face.getModifiers()) ? 1 : 0);
        Check.due("", face.getPackageName());
        oneConstructor(face);
        Set<String> publicNames = methods(face);
        for (Method one : face.getDeclaredMethods()) {
            if (Modifier.isPrivate(one.getModifiers()) && publicNames.contains(one.getName())) {
                Check.tell("a private method bears a public one's name: " + one.getName());
            }
        }
        for (Field one : face.getDeclaredFields()) {
            privateOnly(one.getName(), one.getModifiers());
        }
        for (Class<?> one : face.getDeclaredClasses()) {
            Check.due(1, Modifier.isStatic(one.getModifiers()) ? 1 : 0);
            Check.due(0, Modifier.isPublic(one.getModifiers()) || Modifier.isProtected(one.getModifiers()) ? 1 : 0);
        }
        Check.end();
    }

    private static void oneConstructor(Class<?> face) {
        Constructor<?>[] constructors = face.getDeclaredConstructors();
        Check.due(1, constructors.length);
        Check.due("public FormFields()", constructors[0].toGenericString());
    }

    private static Set<String> methods(Class<?> face) {
        Set<String> told = new TreeSet<>();
        Set<String> names = new TreeSet<>();
        for (Method one : face.getDeclaredMethods()) {
            if (Modifier.isPublic(one.getModifiers())) {
                names.add(one.getName());
                told.add(signature(one));
            } else {
                privateOnly(one.getName(), one.getModifiers());
            }
        }
        Check.due(String.join("\n", new TreeSet<>(Arrays.asList(FACE))), String.join("\n", told));
        return names;
    }

    private static String signature(Method one) {
        String thrown = list(one.getExceptionTypes());
        String shared = Modifier.isStatic(one.getModifiers()) ? "static " : "";
        return shared + one.getReturnType() + " " + one.getName() + "(" + list(one.getParameterTypes()) + ")"
                + (thrown.isEmpty() ? "" : " throws " + thrown);
    }

    private static String list(Class<?>[] types) {
        StringJoiner names = new StringJoiner(", ");
        for (Class<?> one : types) {
            names.add(one.getSimpleName());
        }
        return names.toString();
    }

    private static void privateOnly(String name, int modifiers) {
        if (!Modifier.isPrivate(modifiers)) {
            Check.tell("can be seen: " + name);
        }
    }
}

import java.lang.reflect.Constructor;
import java.lang.reflect.Field;
import java.lang.reflect.Method;
import java.lang.reflect.Modifier;
import java.util.Arrays;
import java.util.Set;
import java.util.TreeSet;

/** The face is the document's, and nothing else of the class can be seen (rule 1 of the language). */
public final class FaceTest {
    private static final String[] FACE = {
        "int appearance(int)", "int at(int)", "int calculate()", "int failed(int)", "int fails(int, boolean)",
        "int field(int, int, int)", "int flatten(int)", "int formula(int, int, int, int)", "int lock(int, boolean)",
        "int mark(int, int)", "int option(int, int)", "int page(int, int)", "int read(int)",
        "int set(int, int, int)", "int shown(int, int)", "int size(int)", "int validate(int)",
        "int value(int, int)", "int write()", "void bounds(int, long, long)",
    };

    public static void main(String[] args) {
        Class<?> face = FormFields.class;
        Check.due(1, Modifier.isPublic(face.getModifiers()) && Modifier.isFinal(face.getModifiers()) ? 1 : 0);
        Constructor<?>[] constructors = face.getDeclaredConstructors();
        Check.due(1, constructors.length);
        Check.due(1, Modifier.isPublic(constructors[0].getModifiers()) ? 1 : 0);
        Check.due(0, constructors[0].getParameterCount());
        Set<String> publicNames = methods(face);
        for (Method one : face.getDeclaredMethods()) {
            if (Modifier.isPrivate(one.getModifiers()) && publicNames.contains(one.getName())) {
                Check.tell("a private method bears a public one's name: " + one.getName());
            }
        }
        for (Field one : face.getDeclaredFields()) {
            privateOnly(one.getName(), one.getModifiers());
            if (Modifier.isStatic(one.getModifiers()) && !Modifier.isFinal(one.getModifiers())) {
                Check.tell("static and not final: " + one.getName());
            }
        }
        for (Class<?> one : face.getDeclaredClasses()) {
            Check.due(1, Modifier.isStatic(one.getModifiers()) ? 1 : 0);
            Check.due(0, Modifier.isPublic(one.getModifiers()) || Modifier.isProtected(one.getModifiers()) ? 1 : 0);
        }
        Check.end();
    }

    private static Set<String> methods(Class<?> face) {
        Set<String> told = new TreeSet<>();
        Set<String> names = new TreeSet<>();
        for (Method one : face.getDeclaredMethods()) {
            if (Modifier.isPublic(one.getModifiers())) {
                names.add(one.getName());
                String parameters = Arrays.toString(one.getParameterTypes());
                told.add(one.getReturnType() + " " + one.getName()
                        + "(" + parameters.substring(1, parameters.length() - 1) + ")");
            } else {
                privateOnly(one.getName(), one.getModifiers());
            }
        }
        Check.due(new TreeSet<>(Arrays.asList(FACE)).toString(), told.toString());
        return names;
    }

    private static void privateOnly(String name, int modifiers) {
        if (!Modifier.isPrivate(modifiers)) {
            Check.tell("can be seen: " + name);
        }
    }
}

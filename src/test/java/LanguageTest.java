import java.io.IOException;
import java.lang.reflect.Executable;
import java.lang.reflect.Field;
import java.lang.reflect.Method;
import java.lang.reflect.Modifier;
import java.nio.file.Files;
import java.nio.file.Path;
import java.util.ArrayList;
import java.util.Arrays;
import java.util.List;
import java.util.Set;
import java.util.regex.Matcher;
import java.util.regex.Pattern;

/** What of the rules of ../shared/LANGUAGE.md can be seen in the class's text and by reflection. */
public final class LanguageTest {
    private static final Path SOURCE = Path.of("src/main/java/FormFields.java");
    private static final Set<String> IMPORTS = Set.of("java.util.ArrayList", "java.util.NoSuchElementException");
    /** Rule 6; the last is not in its list, but promise 19 names it. */
    private static final Set<String> THROWN = Set.of(Check.STATE, Check.ARGUMENT, Check.INDEX, "ArithmeticException",
            Check.UNSUPPORTED, Check.NO_SUCH, "RuntimeException", Check.ARRAY_INDEX);
    /** Calls of the library that the class makes, all listed in rule 4. */
    private static final Set<String> LIBRARY = Set.of("Math.abs", "Math.max", "Math.min");
    /** Words that the class does without; some of them the rules would allow. */
    private static final String[] NOT_THERE = {
        "package", "try", "catch", "finally", "synchronized", "assert", "instanceof", "double", "float", "var",
        "Object", "System", "Thread", "Runtime", "volatile", "native",
    };
    private static final int LONGEST_METHOD = 60;

    public static void main(String[] args) throws IOException {
        String code = withoutCommentsAndTexts(Files.readString(SOURCE));
        imports(code);
        words(code);
        exceptions(code);
        libraryCalls(code);
        methodsAreShort(code);
        classes();
        Check.end();
    }

    /** The lines stay, so that the length of a method can be told. */
    private static String withoutCommentsAndTexts(String source) {
        Matcher comment = Pattern.compile("(?s)/\\*.*?\\*/").matcher(source);
        String code = comment.replaceAll(found -> found.group().replaceAll("[^\n]", ""));
        return code.replaceAll("//[^\n]*", "").replaceAll("\"[^\"\n]*\"", "\"\"");
    }

    private static List<String> found(String pattern, String code) {
        List<String> all = new ArrayList<>();
        Matcher matcher = Pattern.compile(pattern).matcher(code);
        while (matcher.find()) {
            all.add(matcher.group(1));
        }
        return all;
    }

    /** Rule 4. */
    private static void imports(String code) {
        for (String one : found("import\\s+([^;]+);", code)) {
            Check.due("import of " + one + ": true", "import of " + one + ": " + IMPORTS.contains(one));
        }
        Check.due("[]", found("\\b(java[.][^;\\s]+)", code.replaceAll("import[^;]+;", "")).toString());
    }

    /** Rules 2, 3, 6 and 13. */
    private static void words(String code) {
        for (String word : NOT_THERE) {
            Check.due("[]", found("\\b(" + word + ")\\b", code).toString());
        }
        Check.due("[]", found("\\b(equals|hashCode|toString|getClass|getMessage)\\(", code).toString());
        Check.due("[]", found("(->|::)", code).toString());
        Check.due("[]", found("(static\\s*\\{)", code).toString());
    }

    /** Rule 6: made where they are thrown, with a written text or none. */
    private static void exceptions(String code) {
        List<String> thrown = found("\\bthrow new (\\w+)\\((?:\"\")?\\);", code);
        Check.due(found("\\b(throw)\\b", code).size(), thrown.size());
        for (String one : thrown) {
            Check.due("throws " + one + ": true", "throws " + one + ": " + THROWN.contains(one));
        }
    }

    /** Rule 4: none of those whose name ends in Exact. */
    private static void libraryCalls(String code) {
        for (String one : found("\\b((?:Math|Integer|Long|Arrays|String)[.]\\w+)\\(", code)) {
            Check.due(one + ": true", one + ": " + LIBRARY.contains(one));
        }
    }

    /** Rule 11: from a line that opens a method to the one that closes it, by how far they stand in. */
    private static void methodsAreShort(String code) {
        String[] lines = code.split("\n");
        int begin = 0;
        for (int i = 0; i < lines.length; i++) {
            if (lines[i].matches("( {4}){1,2}\\w[^=;]*\\(.*")) {
                begin = i;
            }
            if (lines[i].matches("( {4}){1,2}}") && i - begin >= LONGEST_METHOD) {
                Check.tell("a method of more than " + LONGEST_METHOD + " lines ends in line " + (i + 1));
            }
        }
    }

    /** Rules 5 and 11. */
    private static void classes() {
        List<Class<?>> all = new ArrayList<>(Arrays.asList(FormFields.class.getDeclaredClasses()));
        all.add(FormFields.class);
        Check.due("12 classes at most: true", "12 classes at most: " + (all.size() <= 12));
        for (Class<?> one : all) {
            int held = 0;
            for (Field field : one.getDeclaredFields()) {
                boolean ofClass = Modifier.isStatic(field.getModifiers());
                held += ofClass ? 0 : 1;
                if (ofClass && !(Modifier.isFinal(field.getModifiers()) && isConstant(field.getType()))) {
                    Check.tell("no constant: " + field);
                }
            }
            Check.due(one + ", 20 fields at most: true", one + ", 20 fields at most: " + (held <= 20));
            parameters(one.getDeclaredMethods());
            parameters(one.getDeclaredConstructors());
        }
    }

    private static boolean isConstant(Class<?> type) {
        return type == int.class || type == long.class;
    }

    private static void parameters(Executable[] all) {
        for (Executable one : all) {
            if (one.getParameterCount() > 7) {
                Check.tell("more than seven parameters: " + one);
            }
            if (one instanceof Method && one.isSynthetic()) {
                Check.tell("not written in the file: " + one);
            }
        }
    }
}

import java.io.IOException;
import java.lang.reflect.Executable;
import java.lang.reflect.Field;
import java.lang.reflect.Method;
import java.lang.reflect.Modifier;
import java.nio.file.Files;
import java.nio.file.Path;
import java.util.ArrayList;
import java.util.List;
import java.util.Set;
import java.util.TreeSet;
import java.util.regex.Matcher;
import java.util.regex.Pattern;

/** Those rules of LANGUAGE.md that can be looked up in the compiled class or in its text. */
public final class LanguageTest {
    private static final Path SOURCE = Path.of("src/main/java/RebornDrivers.java");
    private static final Pattern IMPORT = Pattern.compile("(?m)^import (.*);$");
    private static final Pattern LIBRARY_CALL = Pattern.compile("\\b(?:Arrays|Math|System|Integer|Long)\\.\\w+");
    /** What rules 2, 6 and 13 rule out; the program has no need of an exception at all. */
    private static final Pattern RULED_OUT = Pattern.compile(
            "->|::|\\b(?:package|throws?|try|catch|finally|assert|synchronized|volatile|native|Thread|Random)\\b");

    public static void main(String[] args) throws IOException {
        Due due = new Due();
        List<Class<?>> classes = classes();
        due.taken("rule 11: " + classes.size() + " classes are at most 12", classes.size() <= 12);
        for (Class<?> one : classes) {
            membersKeepTheRules(due, one);
        }
        String code = withoutComments(Files.readString(SOURCE));
        due.taken("rule 4: imports", found(IMPORT, code).equals(Set.of("import java.util.Arrays;")));
        due.taken("rule 4: library calls", found(LIBRARY_CALL, code).equals(Set.of("Arrays.fill", "Math.max")));
        due.taken("rules 2, 6, 13: " + found(RULED_OUT, code), found(RULED_OUT, code).isEmpty());
        due.end();
    }

    private static List<Class<?>> classes() {
        List<Class<?>> classes = new ArrayList<>(List.of(RebornDrivers.class.getDeclaredClasses()));
        classes.add(RebornDrivers.class);
        return classes;
    }

    private static void membersKeepTheRules(Due due, Class<?> one) {
        Set<String> face = new TreeSet<>();
        for (Method method : RebornDrivers.class.getMethods()) {
            face.add(method.getName());
        }
        for (Method method : one.getDeclaredMethods()) {
            boolean isOfTheFace = one == RebornDrivers.class && Modifier.isPublic(method.getModifiers());
            due.taken("rule 1: the name of " + method, isOfTheFace || !face.contains(method.getName()));
            hasFewParameters(due, method);
        }
        for (Executable constructor : one.getDeclaredConstructors()) {
            hasFewParameters(due, constructor);
        }
        int fields = 0;
        for (Field field : one.getDeclaredFields()) {
            if (Modifier.isStatic(field.getModifiers())) {
                due.taken("rule 5: " + field, Modifier.isFinal(field.getModifiers()) && field.getType().isPrimitive());
            } else {
                fields++;
            }
            due.taken("rule 3: " + field, isAllowed(field.getType()));
        }
        due.taken("rule 11: " + fields + " fields of " + one + " are at most 20", fields <= 20);
    }

    private static void hasFewParameters(Due due, Executable called) {
        due.taken("rule 11: parameters of " + called, called.getParameterCount() <= 7);
    }

    /** Numbers, booleans, the program's own classes, and rows of these. */
    private static boolean isAllowed(Class<?> type) {
        Class<?> element = type.isArray() ? type.getComponentType() : type;
        return element.isPrimitive() || element.getEnclosingClass() == RebornDrivers.class;
    }

    private static String withoutComments(String text) {
        return text.replaceAll("(?s)/\\*.*?\\*/", "").replaceAll("//.*", "");
    }

    private static Set<String> found(Pattern pattern, String code) {
        Set<String> found = new TreeSet<>();
        Matcher matcher = pattern.matcher(code);
        while (matcher.find()) {
            found.add(matcher.group());
        }
        return found;
    }
}

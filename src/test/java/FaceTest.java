import java.lang.reflect.Constructor;
import java.lang.reflect.Field;
import java.lang.reflect.Method;
import java.lang.reflect.Modifier;
import java.util.Set;
import java.util.TreeSet;

/** The class has the document's face and no other member that can be seen. */
public final class FaceTest {
    private static final Set<String> METHODS = Set.of(
            "boolean read int int", "boolean write int int int", "boolean sync int", "boolean print int int",
            "int tick", "boolean fault int int", "int state int", "int result int", "int line int", "int device int",
            "int slot int int", "int output int", "int driver int int", "int request int", "int now");

    public static void main(String[] args) {
        Due due = new Due();
        Class<?> face = RebornDrivers.class;
        due.is("public and final", face.getModifiers(), Modifier.PUBLIC | Modifier.FINAL);

        Set<String> seen = new TreeSet<>();
        for (Method method : face.getDeclaredMethods()) {
            if (!Modifier.isPrivate(method.getModifiers())) {
                due.is(method + ": modifiers", method.getModifiers(), Modifier.PUBLIC);
                seen.add(signature(method));
            }
        }
        due.taken("the methods " + seen, seen.equals(METHODS));

        for (Field field : face.getDeclaredFields()) {
            due.taken(field + " is private", Modifier.isPrivate(field.getModifiers()));
        }
        Constructor<?>[] constructors = face.getDeclaredConstructors();
        due.is("how many constructors", constructors.length, 1);
        due.is("the constructor is public", constructors[0].getModifiers(), Modifier.PUBLIC);
        for (Class<?> inside : face.getDeclaredClasses()) {
            due.taken(inside + " is static", Modifier.isStatic(inside.getModifiers()));
        }
        due.end();
    }

    private static String signature(Method method) {
        StringBuilder text = new StringBuilder();
        text.append(method.getReturnType().getName()).append(' ').append(method.getName());
        for (Class<?> type : method.getParameterTypes()) {
            text.append(' ').append(type.getName());
        }
        return text.toString();
    }
}

import java.lang.reflect.Constructor;
import java.lang.reflect.Field;
import java.lang.reflect.Method;
import java.lang.reflect.Modifier;
import java.util.Set;
import java.util.TreeSet;

/** The class has the document's face, and every other member is private. */
public final class FaceTest {
    private static final String ARGUMENT = " IllegalArgumentException";
    private static final String STATE = " IllegalArgumentException IllegalStateException";
    private static final Set<String> METHODS = Set.of(
        "void secret(int long int)" + ARGUMENT,
        "boolean user(int long int)" + ARGUMENT,
        "void draft(int int long)" + ARGUMENT,
        "int put(int int int)" + STATE,
        "int number(int int)" + STATE,
        "int name(int)" + STATE,
        "int password(int long int)" + STATE,
        "int hello(int)" + STATE,
        "int reply(long int)" + STATE,
        "int prove(int)" + STATE,
        "void seal(int)" + ARGUMENT,
        "int spoil(int int)" + ARGUMENT,
        "int send(int)" + ARGUMENT,
        "int size()",
        "int byteAt(int)" + ARGUMENT,
        "int ticks(int)" + ARGUMENT,
        "int count(int)" + ARGUMENT,
        "long record(int int)" + ARGUMENT);

    private static String names(Class<?>[] types, String before) {
        StringBuilder all = new StringBuilder();
        for (Class<?> type : types) {
            all.append(all.length() == 0 ? before : " ").append(type.getSimpleName());
        }
        return all.toString();
    }

    private static void due(Check check, String what, boolean holds) {
        check.due(what, holds ? 1 : 0, 1);
    }

    public static void main(String[] args) throws IllegalAccessException {
        Check check = new Check();
        Class<?> face = DoorServer.class;
        due(check, "public and final", Modifier.isPublic(face.getModifiers()) && Modifier.isFinal(face.getModifiers()));
        Set<String> shown = new TreeSet<>();
        Set<String> hidden = new TreeSet<>();
        for (Method method : face.getDeclaredMethods()) {
            if (Modifier.isPrivate(method.getModifiers())) {
                hidden.add(method.getName());
                continue;
            }
            due(check, method + " is public and not static", Modifier.isPublic(method.getModifiers()) && !Modifier.isStatic(method.getModifiers()));
            shown.add(method.getReturnType().getSimpleName() + " " + method.getName()
                + "(" + names(method.getParameterTypes(), "") + ")" + names(method.getExceptionTypes(), " "));
        }
        due(check, "methods " + shown, shown.equals(new TreeSet<>(METHODS)));
        for (String method : METHODS) {
            String name = method.substring(method.indexOf(' ') + 1, method.indexOf('('));
            due(check, "no private method is called " + name, !hidden.contains(name));
        }
        Constructor<?>[] constructors = face.getDeclaredConstructors();
        due(check, "one constructor", constructors.length == 1 && constructors[0].getParameterCount() == 0
            && Modifier.isPublic(constructors[0].getModifiers()));
        Set<String> constants = new TreeSet<>();
        for (Field field : face.getDeclaredFields()) {
            if (!Modifier.isPrivate(field.getModifiers())) {
                due(check, field + " is a constant", Modifier.isStatic(field.getModifiers())
                    && Modifier.isFinal(field.getModifiers()) && Modifier.isPublic(field.getModifiers()));
                constants.add(field.getName() + field.getInt(null));
            }
        }
        due(check, "constants " + constants, constants.equals(Set.of("NONE-1", "BROKEN-2", "OTHER-3", "FORGED-4", "MISSING-5")));
        for (Class<?> inner : face.getDeclaredClasses()) {
            due(check, inner + " is static and not public", Modifier.isStatic(inner.getModifiers())
                && !Modifier.isPublic(inner.getModifiers()) && !Modifier.isProtected(inner.getModifiers()));
        }
        check.end();
    }
}

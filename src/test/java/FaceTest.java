import java.lang.reflect.Constructor;
import java.lang.reflect.Field;
import java.lang.reflect.Method;
import java.lang.reflect.Modifier;
import java.util.Set;
import java.util.TreeSet;

/** The public face is the document's and no more; the classes inside are static, and no static field can change. */
public final class FaceTest {
    private static final Set<String> FACE = Set.of(
        "boolean file(int,int,int)", "int value(int,int)", "int sum(int)", "int peer(int,int,int)",
        "boolean often(int,int)", "boolean meet(int,int)", "boolean leave(int)", "boolean join(int)", "int tick(int)",
        "int about(int,int)", "int held(int,int)", "int from(int,int,int)", "int got(int,int,int)",
        "int rare(int,int)", "int pair(int,int,int)", "int alone(int)", "int bound(int)", "int count(int)");

    private static final Checks CHECKS = new Checks("FaceTest");

    public static void main(String[] args) {
        Class<?> face = PieceSwarm.class;
        CHECKS.due("public and final", Modifier.isPublic(face.getModifiers()) && Modifier.isFinal(face.getModifiers()),
            true);
        methods(face);
        constructors(face);
        fields(face);
        CHECKS.due("some twelve classes", face.getDeclaredClasses().length < 12, true);
        for (Class<?> inside : face.getDeclaredClasses()) {
            CHECKS.due(inside + " is static", Modifier.isStatic(inside.getModifiers()), true);
            CHECKS.due(inside + " is not public", Modifier.isPublic(inside.getModifiers()), false);
            staticFieldsAreFinal(inside);
        }
        CHECKS.end();
    }

    private static void methods(Class<?> face) {
        Set<String> found = new TreeSet<>();
        Set<String> names = new TreeSet<>();
        for (Method method : face.getDeclaredMethods()) {
            if (Modifier.isPrivate(method.getModifiers())) {
                names.add(method.getName());
                continue;
            }
            StringBuilder text = new StringBuilder(method.getReturnType() + " " + method.getName() + "(");
            for (Class<?> type : method.getParameterTypes()) {
                text.append(text.charAt(text.length() - 1) == '(' ? "" : ",").append(type);
            }
            found.add(text.append(")").toString());
            CHECKS.due(method + " is public", Modifier.isPublic(method.getModifiers()), true);
            CHECKS.due(method + " is not static", Modifier.isStatic(method.getModifiers()), false);
        }
        CHECKS.due("the methods, found " + found, found.equals(FACE), true);
        for (String name : names) {
            CHECKS.due("private " + name, FACE.stream().anyMatch(text -> text.contains(" " + name + "(")), false);
        }
    }

    private static void constructors(Class<?> face) {
        for (Constructor<?> constructor : face.getDeclaredConstructors()) {
            CHECKS.due(constructor + " is public", Modifier.isPublic(constructor.getModifiers()), true);
            CHECKS.due(constructor + " takes nothing", constructor.getParameterCount(), 0);
        }
        CHECKS.due("one constructor", face.getDeclaredConstructors().length, 1);
    }

    private static void fields(Class<?> face) {
        for (Field field : face.getDeclaredFields()) {
            boolean isNone = field.getName().equals("NONE");
            CHECKS.due(field + " is private", Modifier.isPrivate(field.getModifiers()), !isNone);
            CHECKS.due(field + " is public", Modifier.isPublic(field.getModifiers()), isNone);
        }
        CHECKS.due("NONE", PieceSwarm.NONE, -1);
        staticFieldsAreFinal(face);
    }

    private static void staticFieldsAreFinal(Class<?> type) {
        for (Field field : type.getDeclaredFields()) {
            if (Modifier.isStatic(field.getModifiers())) {
                CHECKS.due(field + " is final", Modifier.isFinal(field.getModifiers()), true);
            }
        }
    }
}

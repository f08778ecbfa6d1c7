import java.io.IOException;
import java.lang.reflect.Array;
import java.lang.reflect.Field;
import java.lang.reflect.InvocationTargetException;
import java.lang.reflect.Method;
import java.lang.reflect.Modifier;
import java.nio.file.Files;
import java.nio.file.Path;
import java.util.ArrayDeque;
import java.util.ArrayList;
import java.util.Arrays;
import java.util.Collections;
import java.util.Comparator;
import java.util.Deque;
import java.util.IdentityHashMap;
import java.util.List;
import java.util.Random;
import java.util.Set;
import java.util.regex.Matcher;
import java.util.regex.Pattern;
import java.util.stream.Stream;

/** What of LANGUAGE.md can be seen in the text of the class, in its parts, and in the objects that it keeps. */
public final class LanguageTest implements Terms {
    private static final Path SOURCE = Path.of("src", "main", "java", "PieceSwarm.java");
    private static final List<String> NOT_ALLOWED = List.of("package", "throw", "throws", "try", "catch", "finally",
        "synchronized", "assert", "protected", "volatile", "native", "hashCode", "toString", "\\w+Exact");
    /** What the class uses; another one must stand in rule 4 before it is added here. */
    private static final Set<String> LIBRARY = Set.of("Integer.bitCount", "Math.max");
    private static final int[] EDGES = {LEAST, -1, 0, 0, 1, 1, 2, 2, 3, 3, 4, 5, 6, 7, 8, 9, 10, 11, 12, 13, 24, 50, 51,
        GREATEST};
    private static final int MOST_LINES = 60;
    private static final int MOST_PARAMETERS = 7;
    private static final int MOST_FIELDS = 20;
    private static final int MOST_OBJECTS = 200;
    private static final int MOST_ELEMENTS = 7000;

    private static final Checks CHECKS = new Checks("LanguageTest");

    public static void main(String[] args) throws IOException, IllegalAccessException {
        String text = withoutComments(Files.readString(SOURCE));
        words(text);
        methodLengths(text);
        parts(PieceSwarm.class);
        for (Class<?> inside : PieceSwarm.class.getDeclaredClasses()) {
            parts(inside);
        }
        room();
        noCallThrows();
        CHECKS.end();
    }

    private static String withoutComments(String text) {
        return text.replaceAll("(?s)/\\*.*?\\*/", "").replaceAll("//[^\n]*", "");
    }

    private static void words(String text) {
        for (String word : NOT_ALLOWED) {
            CHECKS.due("the word " + word, Pattern.compile("\\b" + word + "\\b").matcher(text).find(), false);
        }
        for (String sign : List.of("->", "::", "while (true)", "for (;")) {
            CHECKS.due("the sign " + sign, text.contains(sign), false);
        }
        Matcher calls = Pattern.compile("\\b[A-Z][a-z]\\w*\\.\\w+").matcher(text);
        while (calls.find()) {
            CHECKS.due("the library's " + calls.group(), LIBRARY.contains(calls.group()), true);
        }
    }

    /** A method's lines stand from one that opens a brace, four or eight deep, to the brace that closes it. */
    private static void methodLengths(String text) {
        String[] lines = text.split("\n");
        for (int i = 0; i < lines.length; i++) {
            Matcher begin = Pattern.compile("( {4}| {8})(?! ).*\\) \\{").matcher(lines[i]);
            if (begin.matches()) {
                int end = i;
                while (end < lines.length && !lines[end].equals(begin.group(1) + "}")) {
                    end++;
                }
                CHECKS.due("short: " + lines[i].strip(), end - i < MOST_LINES, true);
            }
        }
    }

    private static void parts(Class<?> type) {
        int fields = 0;
        for (Field field : type.getDeclaredFields()) {
            fields += Modifier.isStatic(field.getModifiers()) ? 0 : 1;
        }
        CHECKS.due("fields of " + type.getName(), fields <= MOST_FIELDS, true);
        for (Method method : type.getDeclaredMethods()) {
            CHECKS.due("parameters of " + method, method.getParameterCount() <= MOST_PARAMETERS, true);
        }
    }

    /** Any arguments in any state, also long behind the 512th call, where what is answered is free. */
    private static void noCallThrows() throws IllegalAccessException {
        Random random = new Random(7);
        Method[] calls = Stream.of(PieceSwarm.class.getDeclaredMethods())
            .filter(method -> Modifier.isPublic(method.getModifiers()))
            .sorted(Comparator.comparing(Method::getName))
            .toArray(Method[]::new);
        for (int object = 0; object < 20; object++) {
            PieceSwarm swarm = Swarms.swarm(1 + random.nextInt(24), 1 + random.nextInt(4));
            for (int i = 0; i < 3000; i++) {
                Method call = calls[random.nextInt(calls.length)];
                Object[] arguments = new Object[call.getParameterCount()];
                for (int k = 0; k < arguments.length; k++) {
                    arguments[k] = random.nextInt(10) == 0 ? random.nextInt() : EDGES[random.nextInt(EDGES.length)];
                }
                CHECKS.due(call.getName() + Arrays.toString(arguments), ends(call, swarm, arguments), true);
            }
        }
    }

    private static boolean ends(Method call, PieceSwarm swarm, Object[] arguments) throws IllegalAccessException {
        try {
            call.invoke(swarm, arguments);
            return true;
        } catch (InvocationTargetException thrown) {
            thrown.getCause().printStackTrace(System.out);
            return false;
        }
    }

    /** All rows are made in the constructor: behind many calls the object keeps the very same objects. */
    private static void room() throws IllegalAccessException {
        PieceSwarm swarm = Swarms.swarm(24, 4);
        Set<Object> atFirst = kept(swarm);
        Swarms.add(swarm, 4, SEED, 8, 8);
        Swarms.add(swarm, 4, SLOW, 8, 8);
        Swarms.add(swarm, 4, FALSE, 8, 8);
        for (int a = 0; a < 12; a++) {
            Swarms.meetAll(swarm, a, a + 1, 11);
        }
        swarm.tick(50);
        swarm.leave(3);
        swarm.tick(50);
        Set<Object> later = kept(swarm);
        CHECKS.due("objects", atFirst.size() <= MOST_OBJECTS, true);
        CHECKS.due("elements", elements(atFirst) <= MOST_ELEMENTS, true);
        CHECKS.due("no object more", later.size(), atFirst.size());
        CHECKS.due("no other object", atFirst.containsAll(later), true);
    }

    private static Set<Object> kept(Object root) throws IllegalAccessException {
        Set<Object> found = Collections.newSetFromMap(new IdentityHashMap<>());
        Deque<Object> open = new ArrayDeque<>(List.of(root));
        while (!open.isEmpty()) {
            Object next = open.pop();
            if (found.add(next)) {
                open.addAll(partsOf(next));
            }
        }
        return found;
    }

    private static List<Object> partsOf(Object whole) throws IllegalAccessException {
        List<Object> found = new ArrayList<>();
        if (whole instanceof Object[] row) {
            for (Object part : row) {
                if (part != null) {
                    found.add(part);
                }
            }
        } else if (!whole.getClass().isArray()) {
            for (Field field : whole.getClass().getDeclaredFields()) {
                field.setAccessible(true);
                boolean isObject = !field.getType().isPrimitive() && !Modifier.isStatic(field.getModifiers());
                if (isObject && field.get(whole) != null) {
                    found.add(field.get(whole));
                }
            }
        }
        return found;
    }

    private static int elements(Set<Object> objects) {
        int sum = 0;
        for (Object object : objects) {
            Class<?> type = object.getClass();
            sum += type.isArray() ? Array.getLength(object) : type.getDeclaredFields().length;
        }
        return sum;
    }
}

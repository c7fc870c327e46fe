import java.lang.reflect.Array;
import java.lang.reflect.Constructor;
import java.lang.reflect.Field;
import java.lang.reflect.Method;
import java.lang.reflect.Modifier;
import java.util.Arrays;
import java.util.IdentityHashMap;
import java.util.Map;
import java.util.Set;
import java.util.TreeSet;
import java.util.stream.Collectors;

/** The public face is the document's, no more and no less, and all memory is made with the object. */
public final class FaceTest {
    private static final String A = "IllegalArgumentException";
    private static final String I = "IndexOutOfBoundsException";
    private static final String S = "IllegalStateException";
    private static final String U = "UnsupportedOperationException";

    private static final String[] FACE = {
        "int vehicle(int,int,int,int) " + A + " " + I + " " + U,
        "void limits(int,int,int) " + A + " " + I,
        "void place(int,int,int) " + A + " " + I + " " + S,
        "void item(int,int,int) " + A + " " + I + " " + S,
        "void list(int,int,int,int) " + A + " " + I,
        "int stock(int,int) " + A + " " + I + " " + U,
        "int put(int,int,int,int) " + A + " " + I + " " + S + " " + U,
        "int use(int,int,int,int) " + A + " " + I + " " + S,
        "int replace(int) " + A,
        "void swap(int,int,int,int,int) " + A + " " + I + " " + S + " " + U,
        "void ends(int,int,int) " + A + " " + I,
        "void battery(int,int,int) " + A + " " + I,
        "void seal(int,int,boolean) " + A + " " + S,
        "void check(int) " + A,
        "void now(int,int) " + I,
        "int ready(int) " + A,
        "int missing(int,int) " + A + " " + I,
        "int share(int) " + A + " ArithmeticException",
        "long axle(int,int) " + A,
        "int row(int,int) " + A,
        "int has(int,int,int) " + A,
        "int stocked(int) " + A,
    };

    public static void main(String[] args) throws Exception {
        Due due = new Due();
        face(due);
        memory(due);
        due.end();
    }

    private static void face(Due due) {
        Class<?> face = LoadChecks.class;
        due.holds("the class is public and final",
                Modifier.isPublic(face.getModifiers()) && Modifier.isFinal(face.getModifiers()));
        Constructor<?>[] constructors = face.getDeclaredConstructors();
        due.holds("one public constructor without parameters", constructors.length == 1
                && constructors[0].getParameterCount() == 0 && Modifier.isPublic(constructors[0].getModifiers()));
        Set<String> seen = new TreeSet<>();
        Set<String> publicNames = new TreeSet<>();
        for (Method method : face.getDeclaredMethods()) {
            if (!Modifier.isPrivate(method.getModifiers())) {
                seen.add(written(method));
                publicNames.add(method.getName());
                due.holds(method + " is public", Modifier.isPublic(method.getModifiers()));
            }
        }
        Set<String> wanted = new TreeSet<>(Arrays.asList(FACE));
        due.holds("the methods are " + seen + ", due are " + wanted, seen.equals(wanted));
        for (Method method : face.getDeclaredMethods()) {
            due.holds(method + " bears a public name",
                    !Modifier.isPrivate(method.getModifiers()) || !publicNames.contains(method.getName()));
        }
        for (Field field : face.getDeclaredFields()) {
            due.holds(field + " is private", Modifier.isPrivate(field.getModifiers()));
            due.holds(field + " is final if static",
                    !Modifier.isStatic(field.getModifiers()) || Modifier.isFinal(field.getModifiers()));
        }
    }

    private static String written(Method method) {
        String parameters = Arrays.stream(method.getParameterTypes()).map(Class::getSimpleName)
                .collect(Collectors.joining(","));
        String exceptions = Arrays.stream(method.getExceptionTypes()).map(Class::getSimpleName)
                .collect(Collectors.joining(" "));
        return method.getReturnType().getSimpleName() + " " + method.getName() + "(" + parameters + ") " + exceptions;
    }

    private static void memory(Due due) throws Exception {
        LoadChecks x = new LoadChecks();
        Map<Object, Long> before = new IdentityHashMap<>();
        walk(x, before);
        for (int i = 0; i < 16; i++) {
            x.vehicle(i % 6, 4000, 20_000_000, 20_000_000);
        }
        x.list(0, 7, 29, 99);
        x.stock(29, 99);
        x.replace(0);
        for (int i = 0; i < 99; i++) {
            x.swap(0, 1, 7, 29, 1);
        }
        Map<Object, Long> after = new IdentityHashMap<>();
        walk(x, after);
        due.holds("an object keeps what it made first", after.keySet().equals(before.keySet()));
        long elements = before.values().stream().mapToLong(Long::longValue).sum();
        due.holds("an object is " + elements + " fields and elements, due are at most 10,000", elements <= 10_000);
        due.holds("an object is " + before.size() + " objects, due are at most 200", before.size() <= 200);
    }

    private static void walk(Object object, Map<Object, Long> seen) throws Exception {
        if (object == null || seen.containsKey(object)) {
            return;
        }
        if (object.getClass().isArray()) {
            int length = Array.getLength(object);
            seen.put(object, (long) length);
            for (int i = 0; i < length && !object.getClass().getComponentType().isPrimitive(); i++) {
                walk(Array.get(object, i), seen);
            }
            return;
        }
        long fields = 0;
        seen.put(object, 0L);
        for (Field field : object.getClass().getDeclaredFields()) {
            if (!Modifier.isStatic(field.getModifiers())) {
                fields++;
                field.setAccessible(true);
                if (!field.getType().isPrimitive()) {
                    walk(field.get(object), seen);
                }
            }
        }
        seen.put(object, fields);
    }
}

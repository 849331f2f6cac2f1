import java.lang.reflect.Array;
import java.lang.reflect.Constructor;
import java.lang.reflect.Field;
import java.lang.reflect.Method;
import java.lang.reflect.Modifier;
import java.util.Arrays;
import java.util.Collections;
import java.util.IdentityHashMap;
import java.util.Set;
import java.util.TreeSet;
import java.util.stream.Collectors;

/** The public face is the document's and no more; rule 1 and rule 5 of the language; the room of one object. */
public final class FaceTest {
    private static final Check CHECK = new Check("FaceTest");
    private static final String PLACE = "IndexOutOfBoundsException";
    private static final String ARGUMENT = "IllegalArgumentException";
    private static final String STATE = "IllegalStateException";
    // What all 512 calls of one run may make together, were each of them to make an object.
    private static final int ROOM_OF_ONE = 7_300_000 / 512;

    public static void main(String[] args) {
        CHECK.test("the public face", FaceTest::theFace);
        CHECK.test("rule 1, nothing else is seen", FaceTest::nothingElseIsSeen);
        CHECK.test("rule 5, static fields are final", FaceTest::staticsAreFinal);
        CHECK.test("one object is small", FaceTest::oneObjectIsSmall);
        CHECK.end();
    }

    private static String face(String signature, String... exceptions) {
        return signature + " throws " + String.join(",", exceptions);
    }

    private static void theFace() {
        Set<String> want = new TreeSet<>(Arrays.asList(
                face("int add(int,long,int)", PLACE, STATE),
                face("void fill(int,int,int,long,int)", PLACE, ARGUMENT),
                face("void cut(int,int)", PLACE, ARGUMENT),
                face("void swap(int,int,int)", PLACE),
                face("void number(int)", PLACE),
                face("void copy(int,int)", PLACE),
                face("int size(int)", PLACE),
                face("long key(int,int)", PLACE),
                face("int tag(int,int)", PLACE),
                face("void sort(int,int,int)", PLACE, ARGUMENT),
                face("boolean within()"),
                face("boolean sorted(int,int)", PLACE, ARGUMENT),
                face("int runs(int,int)", PLACE, ARGUMENT),
                face("int inversions(int,int)", PLACE, ARGUMENT),
                face("int ranked(int,int,int)", PLACE, ARGUMENT),
                face("int climb(int,int)", PLACE, ARGUMENT),
                face("int find(int,int,long,boolean)", PLACE, ARGUMENT, STATE),
                face("int merge(int,int,int,int)", PLACE, ARGUMENT, STATE),
                face("int single(int,int)", PLACE, ARGUMENT, STATE),
                face("void front(int,int,int)", PLACE, ARGUMENT),
                face("long mark(int)", PLACE)));
        Set<String> got = new TreeSet<>();
        for (Method method : OrderBench.class.getDeclaredMethods()) {
            if (Modifier.isPublic(method.getModifiers())) {
                got.add(face(method.getReturnType() + " " + method.getName() + "(" + names(method.getParameterTypes()) + ")",
                        names(method.getExceptionTypes())));
            }
        }
        CHECK.due("the public methods", got, want);
        CHECK.due("the class", Modifier.toString(OrderBench.class.getModifiers()), "public final");
        Constructor<?>[] constructors = OrderBench.class.getDeclaredConstructors();
        CHECK.due("the constructors", Arrays.toString(constructors), "[public OrderBench()]");
    }

    private static String names(Class<?>[] types) {
        return Arrays.stream(types).map(Class::getSimpleName).collect(Collectors.joining(","));
    }

    private static void nothingElseIsSeen() {
        Set<String> seen = new TreeSet<>();
        Set<String> names = new TreeSet<>();
        for (Method method : OrderBench.class.getDeclaredMethods()) {
            if (Modifier.isPublic(method.getModifiers())) {
                names.add(method.getName());
            } else if (!Modifier.isPrivate(method.getModifiers())) {
                seen.add(method.getName());
            }
        }
        for (Field field : OrderBench.class.getDeclaredFields()) {
            if (!Modifier.isPrivate(field.getModifiers())) {
                seen.add(Modifier.toString(field.getModifiers()) + " " + field.getName());
            }
        }
        CHECK.due("what else is seen", seen, Set.of("public static final NONE"));
        Set<String> twice = new TreeSet<>();
        for (Method method : OrderBench.class.getDeclaredMethods()) {
            if (Modifier.isPrivate(method.getModifiers()) && names.contains(method.getName())) {
                twice.add(method.getName());
            }
        }
        for (Class<?> inside : OrderBench.class.getDeclaredClasses()) {
            CHECK.due(inside.getName() + " is static", Modifier.isStatic(inside.getModifiers()), true);
            for (Method method : inside.getDeclaredMethods()) {
                if (names.contains(method.getName())) {
                    twice.add(inside.getName() + "." + method.getName());
                }
            }
        }
        CHECK.due("other methods with a public one's name", twice, Set.of());
    }

    private static void staticsAreFinal() {
        for (Field field : OrderBench.class.getDeclaredFields()) {
            staticIsFinal(field);
        }
        for (Class<?> inside : OrderBench.class.getDeclaredClasses()) {
            for (Field field : inside.getDeclaredFields()) {
                staticIsFinal(field);
            }
        }
    }

    private static void staticIsFinal(Field field) {
        if (Modifier.isStatic(field.getModifiers())) {
            CHECK.due(field + " is final", Modifier.isFinal(field.getModifiers()), true);
        }
    }

    private static void oneObjectIsSmall() {
        OrderBench bench = new OrderBench();
        int atFirst = held(bench, Collections.newSetFromMap(new IdentityHashMap<>()));
        CHECK.due("a new object holds at most " + ROOM_OF_ONE + ": " + atFirst, atFirst <= ROOM_OF_ONE, true);
        useAll(bench);
        int afterwards = held(bench, Collections.newSetFromMap(new IdentityHashMap<>()));
        CHECK.due("what a used object holds", afterwards, atFirst);
    }

    private static void useAll(OrderBench bench) {
        for (int way = 0; way < 7; way++) {
            bench.fill(0, 1024, 3, 77, 5);
            bench.sort(0, way, 0);
        }
        bench.fill(0, 512, 0, 1, 3);
        bench.merge(0, 0, 1, 0);
        bench.single(1, 0);
        bench.front(0, 1, 100);
        bench.inversions(0, 0);
        bench.climb(0, 7);
        bench.ranked(0, 3, 5);
    }

    /** How many fields and elements an object and all that it holds have. */
    private static int held(Object object, Set<Object> known) {
        if (object == null || !known.add(object)) {
            return 0;
        }
        int total = 0;
        if (object.getClass().isArray()) {
            total = Array.getLength(object);
            if (object instanceof Object[] parts) {
                for (Object part : parts) {
                    total += held(part, known);
                }
            }
            return total;
        }
        for (Field field : object.getClass().getDeclaredFields()) {
            if (!Modifier.isStatic(field.getModifiers())) {
                total++;
                total += field.getType().isPrimitive() ? 0 : held(valueOf(field, object), known);
            }
        }
        return total;
    }

    private static Object valueOf(Field field, Object object) {
        try {
            field.setAccessible(true);
            return field.get(object);
        } catch (IllegalAccessException hidden) {
            throw new IllegalStateException(hidden);
        }
    }
}

import java.io.IOException;
import java.lang.reflect.Constructor;
import java.lang.reflect.Field;
import java.lang.reflect.InvocationTargetException;
import java.lang.reflect.Method;
import java.lang.reflect.Modifier;
import java.nio.file.Files;
import java.nio.file.Path;
import java.util.ArrayList;
import java.util.Arrays;
import java.util.Comparator;
import java.util.List;
import java.util.Random;
import java.util.Set;
import java.util.TreeSet;

/** The names and kinds of the calls, and that hostile arguments never make the machine throw. */
public final class FaceTest {
    private static final String[] FACE = {
        "int addOrder(int,int) IllegalArgumentException IllegalStateException",
        "int change(int,int,int) IndexOutOfBoundsException IllegalArgumentException",
        "int allow(int,int) IndexOutOfBoundsException IllegalArgumentException",
        "int addEscort(int,int) IllegalArgumentException IllegalStateException",
        "int setSlots(int,int) IndexOutOfBoundsException IllegalArgumentException",
        "int addVenue(int) IllegalArgumentException IllegalStateException",
        "int plan(int,int,int,int,int) IndexOutOfBoundsException IllegalArgumentException IllegalStateException",
        "int planWeek(int) IllegalArgumentException IllegalStateException",
        "int cancel(int) IndexOutOfBoundsException IllegalStateException",
        "int tell(int,boolean) IndexOutOfBoundsException IllegalStateException",
        "int endWeek() IllegalStateException",
        "int order(int,int) IndexOutOfBoundsException IllegalArgumentException",
        "int hours(int,int) IndexOutOfBoundsException IllegalArgumentException",
        "int owed(int,int) IndexOutOfBoundsException IllegalArgumentException",
        "int meeting(int,int) IndexOutOfBoundsException IllegalArgumentException",
        "int escort(int,int) IndexOutOfBoundsException IllegalArgumentException",
        "int freeRooms(int,int,int) IndexOutOfBoundsException IllegalArgumentException",
        "int value(int) IllegalArgumentException",
        "int why(int,int,int,int,int) IndexOutOfBoundsException IllegalArgumentException",
        "int firstSlot(int,int) IndexOutOfBoundsException IllegalArgumentException",
        "int owedBehind(int) IllegalArgumentException IllegalStateException",
        "int settledIn()",
        "int gainBy(int,int) IndexOutOfBoundsException IllegalArgumentException IllegalStateException",
        "double kept()",
        "int append(int) IllegalArgumentException IllegalStateException",
        "int clearText()",
        "int carryOut()",
        "int undo() IllegalStateException",
        "long digest()"};

    private static final int[] HOSTILE = {Integer.MIN_VALUE, Integer.MIN_VALUE + 1, -268435456, -100, -2, -1, 0, 1, 2,
        3, 4, 5, 6, 7, 8, 9, 19, 20, 27, 28, 31, 32, 59, 60, 61, 99, 100, 112, 119, 127, 128, 268435455, 268435456,
        Integer.MAX_VALUE - 1, Integer.MAX_VALUE};

    private static final List<String> THROWN_BY_CODE = List.of("IllegalStateException", "IllegalArgumentException",
            "IndexOutOfBoundsException", "UnsupportedOperationException", "NoSuchElementException", "RuntimeException");

    private FaceTest() {
    }

    public static void main(String[] args) throws Exception {
        Check.endWithin(600);
        face();
        source();
        Random random = new Random(11);
        for (int i = 0; i < 400; i++) {
            hostileRun(random);
        }
        Check.end();
    }

    private static void face() {
        Class<?> c = MeetingOrders.class;
        Check.isTrue("the class is public and final",
                Modifier.isPublic(c.getModifiers()) && Modifier.isFinal(c.getModifiers()));
        Set<String> due = new TreeSet<>();
        for (String row : FACE) {
            due.add(call(row));
        }
        Set<String> got = new TreeSet<>();
        for (Method m : c.getDeclaredMethods()) {
            if (!Modifier.isPrivate(m.getModifiers()) && !m.isSynthetic()) {
                got.add(call(m));
                Check.isTrue(m + " is public and no more", m.getModifiers() == Modifier.PUBLIC);
                Check.isTrue(m + " names exceptions that the document does not", exceptions(m).containsAll(named(m)));
            }
        }
        Check.same("the calls", got.toString(), due.toString());
        Constructor<?>[] makers = c.getDeclaredConstructors();
        Check.isTrue("one public constructor without arguments", makers.length == 1
                && Modifier.isPublic(makers[0].getModifiers()) && makers[0].getParameterCount() == 0);
        hidden(c);
    }

    /** What is not of the face is private, and bears no name of it. */
    private static void hidden(Class<?> c) {
        Set<String> names = new TreeSet<>();
        for (String row : FACE) {
            names.add(call(row).replaceAll("^[a-z]+ |[(].*", ""));
        }
        for (Field f : c.getDeclaredFields()) {
            Check.isTrue(f + " is private", Modifier.isPrivate(f.getModifiers()) || f.isSynthetic()
                    || f.getName().equals("NONE"));
        }
        for (Method m : c.getDeclaredMethods()) {
            Check.isTrue(m + " bears the name of a call",
                    !Modifier.isPrivate(m.getModifiers()) || !names.contains(m.getName()));
        }
        for (Class<?> inner : c.getDeclaredClasses()) {
            Check.isTrue(inner + " is private or package-visible",
                    !Modifier.isPublic(inner.getModifiers()) && !Modifier.isProtected(inner.getModifiers()));
            for (Method m : inner.getDeclaredMethods()) {
                Check.isTrue(m + " bears the name of a call",
                        !Modifier.isPrivate(m.getModifiers()) || !names.contains(m.getName()));
            }
        }
    }

    private static String call(String row) {
        return row.replaceAll("[)].*", ")");
    }

    private static String call(Method m) {
        List<String> types = new ArrayList<>();
        for (Class<?> type : m.getParameterTypes()) {
            types.add(type.getSimpleName());
        }
        return m.getReturnType().getSimpleName() + " " + m.getName() + "(" + String.join(",", types) + ")";
    }

    /** The exceptions that the document names for this call. */
    private static List<String> exceptions(Method m) {
        for (String row : FACE) {
            if (call(row).equals(call(m))) {
                return Arrays.asList(row.substring(row.indexOf(')') + 1).trim().split(" "));
            }
        }
        return List.of();
    }

    private static List<String> named(Method m) {
        List<String> names = new ArrayList<>();
        for (Class<?> e : m.getExceptionTypes()) {
            names.add(e.getSimpleName());
        }
        return names;
    }

    /** Words that ../shared/LANGUAGE.md leaves out, wherever they stand in the code. */
    private static void source() throws IOException {
        String source = Files.readString(Path.of("src/main/java/MeetingOrders.java"));
        String code = source.replaceAll("(?s)/[*].*?[*]/", " ").replaceAll("//[^\n]*", " ")
                .replaceAll("\"([^\"\\\\\n]|\\\\.)*\"", "0");
        for (String word : new String[] {"package ", "finally", "::", "assert ", "synchronized", "Exact(", "hashCode(",
            "ArrayIndexOutOfBounds", "NullPointer", "ClassCast", "NegativeArraySize", "ArrayStore", "Throwable"}) {
            Check.isTrue("the source holds " + word, !code.contains(word));
        }
        for (int i = 0; i < source.length(); i++) {
            Check.isTrue("the source holds a sign beyond 127", source.charAt(i) < 128);
        }
    }

    /** Behind 512 calls the answers are free, but not that the machine throws. */
    private static void hostileRun(Random random) throws IllegalAccessException {
        MeetingOrders x = new MeetingOrders();
        List<Method> calls = new ArrayList<>();
        for (Method m : MeetingOrders.class.getDeclaredMethods()) {
            if (Modifier.isPublic(m.getModifiers())) {
                calls.add(m);
            }
        }
        calls.sort(Comparator.comparing(m -> call(m)));
        for (int i = 0; i < 1000; i++) {
            hostileCall(x, calls.get(random.nextInt(calls.size())), random, i < 512);
        }
    }

    private static void hostileCall(MeetingOrders x, Method m, Random random, boolean promised)
            throws IllegalAccessException {
        Object[] arguments = new Object[m.getParameterCount()];
        for (int i = 0; i < arguments.length; i++) {
            arguments[i] = m.getParameterTypes()[i] == boolean.class ? (Object) random.nextBoolean()
                    : (Object) (random.nextInt(3) == 0 ? HOSTILE[random.nextInt(HOSTILE.length)] : random.nextInt(8));
        }
        try {
            m.invoke(x, arguments);
        } catch (InvocationTargetException e) {
            String kind = e.getCause().getClass().getSimpleName();
            boolean right = promised ? exceptions(m).contains(kind) : THROWN_BY_CODE.contains(kind);
            Check.isTrue(m.getName() + Arrays.toString(arguments) + " threw " + e.getCause(), right);
        }
    }
}

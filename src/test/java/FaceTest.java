import java.io.IOException;
import java.lang.reflect.Constructor;
import java.lang.reflect.Field;
import java.lang.reflect.InvocationTargetException;
import java.lang.reflect.Method;
import java.lang.reflect.Modifier;
import java.nio.file.Files;
import java.nio.file.Path;
import java.util.ArrayList;
import java.util.Arrays;
import java.util.Collections;
import java.util.List;
import java.util.Random;

/** The names and kinds of the calls, and that hostile arguments never make the machine throw. */
public final class FaceTest {
    private static final String[] FACE = {
        "int addOrder(int,int) IllegalArgumentException IllegalStateException",
        "int change(int,int,int) IndexOutOfBoundsException IllegalArgumentException",
        "int allow(int,int) IndexOutOfBoundsException IllegalArgumentException",
        "int addEscort(int,int) IllegalArgumentException IllegalStateException",
        "int setSlots(int,int) IndexOutOfBoundsException IllegalArgumentException",
        "int addVenue(int) IllegalArgumentException IllegalStateException",
        "int plan(int,int,int,int,int) IndexOutOfBoundsException IllegalArgumentException IllegalStateException",
        "int planWeek(int) IllegalArgumentException IllegalStateException",
        "int cancel(int) IndexOutOfBoundsException IllegalStateException",
        "int tell(int,boolean) IndexOutOfBoundsException IllegalStateException",
        "int endWeek() IllegalStateException",
        "int order(int,int) IndexOutOfBoundsException IllegalArgumentException",
        "int hours(int,int) IndexOutOfBoundsException IllegalArgumentException",
        "int owed(int,int) IndexOutOfBoundsException IllegalArgumentException",
        "int meeting(int,int) IndexOutOfBoundsException IllegalArgumentException",
        "int escort(int,int) IndexOutOfBoundsException IllegalArgumentException",
        "int freeRooms(int,int,int) IndexOutOfBoundsException IllegalArgumentException",
        "int value(int) IllegalArgumentException",
        "int why(int,int,int,int,int) IndexOutOfBoundsException IllegalArgumentException",
        "int firstSlot(int,int) IndexOutOfBoundsException IllegalArgumentException",
        "int owedBehind(int) IllegalArgumentException IllegalStateException",
        "int settledIn()",
        "int gainBy(int,int) IndexOutOfBoundsException IllegalArgumentException IllegalStateException",
        "double kept()",
        "int append(int) IllegalArgumentException IllegalStateException",
        "int clearText()",
        "int carryOut()",
        "int undo() IllegalStateException",
        "long digest()"};

    private static final int[] HOSTILE = {Integer.MIN_VALUE, Integer.MIN_VALUE + 1, -268435456, -100, -2, -1, 0, 1, 2,
        3, 4, 5, 6, 7, 8, 9, 19, 20, 27, 28, 31, 32, 59, 60, 61, 99, 100, 112, 119, 127, 128, 268435455, 268435456,
        Integer.MAX_VALUE - 1, Integer.MAX_VALUE};

    private FaceTest() {
    }

    public static void main(String[] args) throws Exception {
        face();
        source();
        Random random = new Random(11);
        for (int i = 0; i < 400; i++) {
            hostileRun(random);
        }
        Check.end();
    }

    private static void face() {
        Class<?> c = MeetingOrders.class;
        Check.isTrue("the class is public and final",
                Modifier.isPublic(c.getModifiers()) && Modifier.isFinal(c.getModifiers()));
        List<String> due = new ArrayList<>(Arrays.asList(FACE));
        List<String> got = new ArrayList<>();
        List<String> names = new ArrayList<>();
        for (Method m : c.getDeclaredMethods()) {
            if (Modifier.isPrivate(m.getModifiers()) || m.isSynthetic()) {
                continue;
            }
            got.add(signature(m));
            names.add(m.getName());
            Check.isTrue(m + " is public and no more", m.getModifiers() == Modifier.PUBLIC);
        }
        Collections.sort(due);
        Collections.sort(got);
        Check.isTrue("the calls are " + got, got.equals(due));
        for (Class<?> inner : c.getDeclaredClasses()) {
            Check.isTrue(inner + " is static", Modifier.isStatic(inner.getModifiers()));
            for (Method m : inner.getDeclaredMethods()) {
                Check.isTrue(m + " bears the name of a call", !names.contains(m.getName()));
            }
        }
        for (Method m : c.getDeclaredMethods()) {
            Check.isTrue(m + " bears the name of a call",
                    !Modifier.isPrivate(m.getModifiers()) || !names.contains(m.getName()));
        }
        for (Field f : c.getDeclaredFields()) {
            Check.isTrue(f + " is private", Modifier.isPrivate(f.getModifiers()) || f.getName().equals("NONE"));
        }
        Constructor<?>[] makers = c.getDeclaredConstructors();
        Check.isTrue("one public constructor without arguments", makers.length == 1
                && Modifier.isPublic(makers[0].getModifiers()) && makers[0].getParameterCount() == 0);
    }

    private static String signature(Method m) {
        StringBuilder s = new StringBuilder(m.getReturnType().getSimpleName() + " " + m.getName() + "(");
        for (int i = 0; i < m.getParameterCount(); i++) {
            s.append(i == 0 ? "" : ",").append(m.getParameterTypes()[i].getSimpleName());
        }
        s.append(")");
        for (Class<?> e : m.getExceptionTypes()) {
            s.append(" ").append(e.getSimpleName());
        }
        return s.toString();
    }

    /** Words that ../shared/LANGUAGE.md leaves out, or that would hide what the machine throws. */
    private static void source() throws IOException {
        String source = Files.readString(Path.of("src/main/java/MeetingOrders.java"));
        for (String word : new String[] {"import ", "package ", "try ", "catch", "finally", "->", "::", "assert ",
            "synchronized", "Exact(", "toString(", "hashCode(", "equals(", "\t"}) {
            Check.isTrue("the source holds " + word, !source.contains(word));
        }
        for (int i = 0; i < source.length(); i++) {
            Check.isTrue("the source holds a sign beyond 127", source.charAt(i) < 128);
        }
    }

    /** More than 512 calls: what they answer is free then, but not that the machine throws. */
    private static void hostileRun(Random random) throws IllegalAccessException {
        MeetingOrders x = new MeetingOrders();
        Method[] calls = MeetingOrders.class.getMethods();
        Arrays.sort(calls, (a, b) -> signature(a).compareTo(signature(b)));
        for (int i = 0; i < 1000; i++) {
            Method m = calls[random.nextInt(calls.length)];
            if (m.getDeclaringClass() == MeetingOrders.class) {
                hostileCall(x, m, random);
            }
        }
    }

    private static void hostileCall(MeetingOrders x, Method m, Random random) throws IllegalAccessException {
        Object[] arguments = new Object[m.getParameterCount()];
        for (int i = 0; i < arguments.length; i++) {
            arguments[i] = m.getParameterTypes()[i] == boolean.class ? (Object) random.nextBoolean()
                    : (Object) (random.nextInt(3) == 0 ? HOSTILE[random.nextInt(HOSTILE.length)] : random.nextInt(8));
        }
        try {
            m.invoke(x, arguments);
        } catch (InvocationTargetException e) {
            boolean listed = Arrays.asList(m.getExceptionTypes()).contains(e.getCause().getClass());
            Check.isTrue(m.getName() + Arrays.toString(arguments) + " threw " + e.getCause(), listed);
        }
    }
}

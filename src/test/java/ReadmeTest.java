import java.io.IOException;
import java.lang.reflect.Method;
import java.lang.reflect.Modifier;
import java.nio.file.Files;
import java.nio.file.Path;
import java.util.ArrayList;
import java.util.List;
import java.util.function.LongSupplier;

/** README.md shows calls with their answers: they are made here, and have to stand there as they are. */
public final class ReadmeTest {
    private static final String TEXT = "c01:1;p1;w;h1;";

    private final MeetingOrders x = new MeetingOrders();
    private final List<String> shown = new ArrayList<>();

    private ReadmeTest() {
    }

    public static void main(String[] args) throws IOException {
        Check.endWithin(600);
        String readme = Files.readString(Path.of("README.md"));
        int start = readme.indexOf("```java\n") + "```java\n".length();
        String example = readme.substring(start, readme.indexOf("```", start));
        new ReadmeTest().example(example.lines().toList());
        texts(readme);
        names(readme.substring(readme.indexOf("## How to use it"), readme.indexOf("## How it is built")));
        Check.end();
    }

    private void example(List<String> readme) {
        shown.add("MeetingOrders x = new MeetingOrders();");
        line("int venue = x.addVenue(1);", 0, () -> x.addVenue(1));
        line("int escort = x.addEscort(0b1111, 3);", 0, () -> x.addEscort(0b1111, 3));
        line("int order = x.addOrder(2, 1 << venue);", 0, () -> x.addOrder(2, 1 << 0));
        line("x.planWeek(0);", 1, () -> x.planWeek(0));
        line("x.meeting(0, 2);", 0, () -> x.meeting(0, 2));
        line("x.why(order, 0, 1, escort, venue);", 3, () -> x.why(0, 0, 1, 0, 0));
        line("x.tell(0, true);", 1, () -> x.tell(0, true));
        line("x.endWeek();", 0, () -> x.endWeek());
        line("x.owed(order, 1);", 3, () -> x.owed(0, 1));
        line("x.undo();", 3, () -> x.undo());
        line("x.value(4);", 0, () -> x.value(4));
        shown.add("for (char c : \"" + TEXT + "\".toCharArray()) {");
        shown.add("x.append(c);");
        shown.add("}");
        for (char c : TEXT.toCharArray()) {
            x.append(c);
        }
        line("x.carryOut();", 4, () -> x.carryOut());
        line("x.owed(order, 1);", 1, () -> x.owed(0, 1));
        Check.same("the lines of the example", readme.size(), shown.size());
        for (int i = 0; i < readme.size() && i < shown.size(); i++) {
            String line = readme.get(i).trim().replaceAll(" +// ", " // ");
            Check.isTrue("the example says: " + line + ", due is: " + shown.get(i),
                    line.equals(shown.get(i)) || line.startsWith(shown.get(i) + ": "));
        }
    }

    private void line(String code, long due, LongSupplier call) {
        Check.same(code, call.getAsLong(), due);
        shown.add(code + " // " + due);
    }

    private static void texts(String readme) {
        MeetingOrders x = Made.small();
        Check.same("c02:3;", Made.write(x, row(readme, "c02:3;")).carryOut(), 1);
        Check.same("the week 1 keeps its hours", x.hours(0, 1), 2);
        Check.same("the week 2 has the new ones", x.hours(0, 2), 3);
        Check.same("p2;", Made.write(x, row(readme, "p2;")).carryOut(), 1);
        Check.same("what was owed in the week 2 is planned", x.value(3), 7);
        MeetingOrders held = Made.small();
        held.planWeek(0);
        Check.same("h0;", Made.write(held, row(readme, "h0;")).carryOut(), 1);
        Check.same("it was held", held.meeting(0, 5), 1);
        Check.same("m0; of a meeting that was held", Made.write(held, row(readme, "m0;")).carryOut(), 0);
        Check.same("w;", Made.write(held, row(readme, "w;")).carryOut(), 1);
        Check.same("the next week", held.value(4), 1);
        Check.isTrue("README.md tells of p1;p20;", readme.contains("-14 for `p1;p20;`"));
        Check.same("p1;p20;", Made.write(x, "p1;p20;").carryOut(), -14);
    }

    private static String row(String readme, String order) {
        Check.isTrue("README.md shows the order " + order, readme.contains("`" + order + "`"));
        return order;
    }

    private static void names(String use) {
        for (Method m : MeetingOrders.class.getDeclaredMethods()) {
            if (Modifier.isPublic(m.getModifiers())) {
                Check.isTrue("README.md names " + m.getName(), use.contains("`" + m.getName() + "`"));
            }
        }
    }
}

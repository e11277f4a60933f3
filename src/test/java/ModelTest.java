import java.util.Random;
import java.util.function.LongSupplier;
import java.util.stream.IntStream;

/** Random runs of 512 calls, each answer compared with the Model's. */
public final class ModelTest {
    private static final int RUNS = 300;
    private static final int CALLS = 512;

    private final Random random;
    private final String name;
    private final MeetingOrders x = new MeetingOrders();
    private final Model y = new Model();
    /** Runs differ in how often the week ends and how much room there is, so that every limit is met somewhere. */
    private final int pace;
    private final boolean roomy;
    private int calls = 0;

    private ModelTest(int seed) {
        random = new Random(seed);
        name = "run " + seed;
        pace = 2 + seed % 7 * 3;
        roomy = seed % 3 != 0;
    }

    public static void main(String[] args) {
        Check.endWithin(600);
        IntStream.range(0, RUNS).parallel().forEach(seed -> new ModelTest(seed).run());
        compareTexts();
        Check.end();
    }

    private void run() {
        furnish();
        for (int i = 0; i < CALLS; i++) {
            step();
        }
    }

    private void furnish() {
        int venues = roomy ? 3 + random.nextInt(3) : random.nextInt(3);
        int escorts = roomy ? 3 + random.nextInt(4) : random.nextInt(4);
        int orders = roomy ? 4 + random.nextInt(5) : random.nextInt(5);
        for (int i = 0; i < venues; i++) {
            addVenue();
        }
        for (int i = 0; i < escorts; i++) {
            addEscort();
        }
        for (int i = 0; i < orders; i++) {
            addOrder();
        }
    }

    private void step() {
        int kind = random.nextInt(100);
        if (kind < 22) {
            furnishOrPlan(kind);
        } else if (kind < 40) {
            tellOrCancel();
        } else if (kind < 40 + pace) {
            both("endWeek()", x::endWeek, y::endWeek);
        } else if (kind < 67) {
            ask();
        } else if (kind < 80) {
            whatIf();
        } else if (kind < 85) {
            writeAndCarryOut();
        } else if (kind < 89) {
            both("undo()", x::undo, y::undo);
        } else if (kind < 93) {
            both("digest()", x::digest, y::digest);
        } else {
            plan();
        }
    }

    private void furnishOrPlan(int kind) {
        switch (kind) {
            case 0 -> addOrder();
            case 1 -> addVenue();
            case 2 -> addEscort();
            case 3 -> {
                int order = number(8);
                int set = venues();
                both("allow(" + order + ", " + set + ")", () -> x.allow(order, set), () -> y.allow(order, set));
            }
            case 4 -> {
                int escort = number(6);
                int set = slots();
                both("setSlots(" + escort + ", " + set + ")", () -> x.setSlots(escort, set),
                        () -> y.setSlots(escort, set));
            }
            case 5, 6, 7 -> {
                int order = number(8);
                int week = week();
                int hours = hours();
                both("change(" + order + ", " + week + ", " + hours + ")", () -> x.change(order, week, hours),
                        () -> y.change(order, week, hours));
            }
            case 8, 9, 10, 11 -> {
                int week = week();
                both("planWeek(" + week + ")", () -> x.planWeek(week), () -> y.planWeek(week));
            }
            default -> plan();
        }
    }

    private void plan() {
        int order = number(y.now.hours.size());
        int week = week();
        int slot = slot();
        int escort = number(y.now.escorts.size());
        int venue = number(y.now.rooms.size());
        String of = "(" + order + ", " + week + ", " + slot + ", " + escort + ", " + venue + ")";
        both("why" + of, () -> x.why(order, week, slot, escort, venue), () -> y.why(order, week, slot, escort, venue));
        both("plan" + of, () -> x.plan(order, week, slot, escort, venue),
                () -> y.plan(order, week, slot, escort, venue));
    }

    private void tellOrCancel() {
        int meeting = meeting();
        if (random.nextInt(4) == 0) {
            both("cancel(" + meeting + ")", () -> x.cancel(meeting), () -> y.cancel(meeting));
        } else {
            boolean held = random.nextInt(4) != 0;
            both("tell(" + meeting + ", " + held + ")", () -> x.tell(meeting, held), () -> y.tell(meeting, held));
        }
    }

    private void ask() {
        int what = random.nextInt(12) - 1;
        int week = anyWeek();
        switch (random.nextInt(7)) {
            case 0 -> {
                int order = number(8);
                both("order(" + order + ", " + what + ")", () -> x.order(order, what), () -> y.order(order, what));
            }
            case 1 -> {
                int order = number(8);
                both("hours(" + order + ", " + week + ")", () -> x.hours(order, week), () -> y.hours(order, week));
            }
            case 2 -> {
                int order = number(8);
                both("owed(" + order + ", " + week + ")", () -> x.owed(order, week), () -> y.owed(order, week));
            }
            case 3 -> {
                int meeting = meeting();
                both("meeting(" + meeting + ", " + what + ")", () -> x.meeting(meeting, what),
                        () -> y.meeting(meeting, what));
            }
            case 4 -> {
                int escort = number(6);
                int part = random.nextInt(6) - 1;
                both("escort(" + escort + ", " + part + ")", () -> x.escort(escort, part),
                        () -> y.escort(escort, part));
            }
            case 5 -> {
                int venue = number(5);
                int slot = slot();
                both("freeRooms(" + venue + ", " + week + ", " + slot + ")", () -> x.freeRooms(venue, week, slot),
                        () -> y.freeRooms(venue, week, slot));
            }
            default -> both("value(" + what + ")", () -> x.value(what), () -> y.value(what));
        }
    }

    private void whatIf() {
        int week = week();
        switch (random.nextInt(5)) {
            case 0 -> {
                int order = number(8);
                both("firstSlot(" + order + ", " + week + ")", () -> x.firstSlot(order, week),
                        () -> y.firstSlot(order, week));
            }
            case 1 -> both("owedBehind(" + week + ")", () -> x.owedBehind(week), () -> y.owedBehind(week));
            case 2 -> both("settledIn()", x::settledIn, y::settledIn);
            case 3 -> {
                int escort = number(6);
                both("gainBy(" + escort + ", " + week + ")", () -> x.gainBy(escort, week),
                        () -> y.gainBy(escort, week));
            }
            default -> both("kept()", () -> Double.doubleToLongBits(x.kept()), () -> Double.doubleToLongBits(y.kept()));
        }
    }

    private void writeAndCarryOut() {
        StringBuilder orders = new StringBuilder();
        for (int i = random.nextInt(5); i > 0; i--) {
            orders.append(textOrder(random, y.now.week, y.now.next));
        }
        String text = random.nextInt(4) == 0 ? spoil(random, orders.toString()) : orders.toString();
        for (int i = 0; i < text.length(); i++) {
            int value = text.charAt(i);
            both("append(" + value + ")", () -> x.append(value), () -> y.append(value));
        }
        both("carryOut() of " + text, x::carryOut, y::carryOut);
        both("clearText()", x::clearText, y::clearText);
    }

    private static String textOrder(Random random, int week, int next) {
        int near = Math.min(19, week + random.nextInt(3));
        return switch (random.nextInt(8)) {
            case 0, 1 -> "c" + random.nextInt(8) + two(random, near) + ":" + random.nextInt(8) + ";";
            case 2, 3 -> "p" + two(random, near) + ";";
            case 4 -> "h" + two(random, Math.max(0, Math.min(99, next - 1 - random.nextInt(4)))) + ";";
            case 5 -> "m" + two(random, Math.max(0, Math.min(99, next - 1 - random.nextInt(4)))) + ";";
            case 6 -> "p" + two(random, random.nextInt(20)) + ";";
            default -> "w;";
        };
    }

    private static String two(Random random, int number) {
        return number < 10 && random.nextBoolean() ? "0" + number : "" + number;
    }

    private static String spoil(Random random, String text) {
        StringBuilder spoilt = new StringBuilder(text);
        int place = random.nextInt(text.length() + 1);
        String signs = "0123456789cphmw:;x ";
        char sign = signs.charAt(random.nextInt(signs.length()));
        switch (random.nextInt(3)) {
            case 0 -> spoilt.insert(place, sign);
            case 1 -> spoilt.setLength(place);
            default -> {
                if (place < text.length()) {
                    spoilt.setCharAt(place, sign);
                }
            }
        }
        return spoilt.toString();
    }

    /** Texts alone, on objects without orders, where every syntax error position is compared. */
    private static void compareTexts() {
        Random random = new Random(7);
        for (int i = 0; i < 30000; i++) {
            StringBuilder orders = new StringBuilder();
            for (int k = random.nextInt(4); k > 0; k--) {
                orders.append(textOrder(random, random.nextInt(25), 100));
            }
            String text = spoil(random, spoil(random, orders.toString()));
            if (text.length() <= 100) {
                compareText(text);
            }
        }
        String[] signs = {"", "0", "1", "2", "7", "8", "9", ":", ";", "x"};
        for (String start : new String[] {"c", "p", "h", "m", "w", "x", "c0", "c7", "c01", "c019", "c020", "w;c"}) {
            for (String a : signs) {
                for (String b : signs) {
                    for (String c : signs) {
                        compareText(start + a + b + c);
                    }
                }
            }
        }
    }

    private static void compareText(String text) {
        MeetingOrders x = new MeetingOrders();
        Model y = new Model();
        for (int i = 0; i < text.length(); i++) {
            x.append(text.charAt(i));
            y.append(text.charAt(i));
        }
        Check.same("carryOut() of " + text, x.carryOut(), y.carryOut());
    }

    private void addOrder() {
        int hours = hours();
        int set = venues();
        both("addOrder(" + hours + ", " + set + ")", () -> x.addOrder(hours, set), () -> y.addOrder(hours, set));
    }

    private void addEscort() {
        int set = slots();
        int limit = random.nextInt(12) == 0 ? random.nextInt(24) - 1 : 1 + random.nextInt(roomy ? 20 : 5);
        both("addEscort(" + set + ", " + limit + ")", () -> x.addEscort(set, limit), () -> y.addEscort(set, limit));
    }

    private void addVenue() {
        int rooms = random.nextInt(12) == 0 ? random.nextInt(7) - 1 : 1 + random.nextInt(4);
        both("addVenue(" + rooms + ")", () -> x.addVenue(rooms), () -> y.addVenue(rooms));
    }

    private int number(int size) {
        return random.nextInt(25) == 0 ? random.nextInt(12) - 2 : random.nextInt(Math.max(1, size));
    }

    private int meeting() {
        int next = y.now.next;
        return random.nextInt(8) == 0 ? random.nextInt(next + 3) - 1 : Math.max(0, next - 1 - random.nextInt(40));
    }

    private int week() {
        return random.nextInt(10) == 0 ? anyWeek() : y.now.week + random.nextInt(3);
    }

    private int anyWeek() {
        return random.nextInt(23) - 1;
    }

    private int slot() {
        return random.nextInt(25) == 0 ? random.nextInt(34) - 3 : random.nextInt(28);
    }

    private int hours() {
        return random.nextInt(15) == 0 ? random.nextInt(12) - 2 : random.nextInt(8);
    }

    private int venues() {
        int all = (1 << y.now.rooms.size()) - 1;
        if (random.nextInt(20) == 0) {
            return random.nextBoolean() ? all + 1 : -1 - random.nextInt(3);
        }
        return random.nextInt(all + 1);
    }

    private int slots() {
        return switch (random.nextInt(roomy ? 4 : 20)) {
            case 0 -> 268435455;
            case 1 -> random.nextInt(20) == 0 ? random.nextInt() : random.nextInt(1 << 28) | random.nextInt(1 << 28);
            case 2 -> random.nextInt(1 << 28);
            default -> random.nextInt(1 << 28) & random.nextInt(1 << 28);
        };
    }

    /** Behind 512 calls the answers are free. */
    private void both(String call, LongSupplier here, LongSupplier there) {
        if (calls >= CALLS) {
            return;
        }
        calls++;
        String got = answer(here);
        String due = answer(there);
        if (!got.equals(due)) {
            Check.fail(name + ": " + call + " answered " + got + ", the model " + due);
        }
    }

    private static String answer(LongSupplier call) {
        try {
            return "" + call.getAsLong();
        } catch (RuntimeException e) {
            return e.getClass().getName();
        }
    }
}

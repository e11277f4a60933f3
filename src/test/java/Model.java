import java.util.ArrayDeque;
import java.util.ArrayList;
import java.util.Comparator;
import java.util.Deque;
import java.util.List;
import java.util.Optional;
import java.util.regex.Matcher;
import java.util.regex.Pattern;

/**
 * A second program for the same document, as plain as it goes, to compare answers with. It keeps every meeting for
 * good and derives all numbers from them, where the class counts.
 */
final class Model {
    record Meeting(int number, int order, int week, int slot, int escort, int venue, int status, boolean kept) {
        Meeting with(int newStatus) {
            return new Meeting(number, order, week, slot, escort, venue, newStatus, kept);
        }

        Meeting dropped() {
            return new Meeting(number, order, week, slot, escort, venue, status, false);
        }

        boolean takesPlace() {
            return kept && status != 2;
        }
    }

    static final class World {
        int week;
        int next;
        List<int[]> hours = new ArrayList<>();
        List<Integer> allowed = new ArrayList<>();
        List<int[]> escorts = new ArrayList<>();
        List<Integer> rooms = new ArrayList<>();
        List<Meeting> meetings = new ArrayList<>();

        World copy() {
            World w = new World();
            w.week = week;
            w.next = next;
            hours.forEach(h -> w.hours.add(h.clone()));
            w.allowed.addAll(allowed);
            escorts.forEach(e -> w.escorts.add(e.clone()));
            w.rooms.addAll(rooms);
            w.meetings.addAll(meetings);
            return w;
        }

        List<Meeting> kept() {
            return meetings.stream().filter(Meeting::kept).toList();
        }

        int count(int order, int status) {
            return (int) meetings.stream().filter(m -> m.order == order && m.status == status).count();
        }

        int countAll(int status) {
            return (int) meetings.stream().filter(m -> m.status == status).count();
        }

        int owed(int order, int upTo) {
            int sum = 0;
            for (int w = 0; w <= upTo; w++) {
                sum += hours.get(order)[w];
            }
            for (Meeting m : meetings) {
                if (m.order == order && (m.status == 1 || m.status == 0 && m.week <= upTo)) {
                    sum--;
                }
            }
            return sum < 0 ? 0 : sum;
        }

        int owedByAll(int upTo) {
            int sum = 0;
            for (int o = 0; o < hours.size(); o++) {
                sum += owed(o, upTo);
            }
            return sum;
        }

        long taken(java.util.function.Predicate<Meeting> which) {
            return meetings.stream().filter(m -> m.takesPlace() && which.test(m)).count();
        }

        int free(int venue, int w, int slot) {
            return rooms.get(venue) - (int) taken(m -> m.week == w && m.slot == slot && m.venue == venue);
        }

        int why(int order, int w, int slot, int escort, int venue) {
            if (w < week) {
                return 1;
            }
            if ((allowed.get(order) & (1 << venue)) == 0) {
                return 2;
            }
            if (taken(m -> m.order == order && m.week == w && m.slot / 4 == slot / 4) > 0) {
                return 3;
            }
            if ((escorts.get(escort)[0] & (1 << slot)) == 0) {
                return 4;
            }
            if (taken(m -> m.escort == escort && m.week == w && m.slot == slot) > 0) {
                return 5;
            }
            if (taken(m -> m.escort == escort && m.week == w) >= escorts.get(escort)[1]) {
                return 6;
            }
            if (free(venue, w, slot) <= 0) {
                return 7;
            }
            return kept().size() >= 60 ? 8 : 0;
        }

        /** Order, slot, escort and venue of the best meeting, if there is one. */
        Optional<int[]> best(int order, int w) {
            for (int slot = 0; slot < 28; slot++) {
                List<int[]> here = new ArrayList<>();
                for (int e = 0; e < escorts.size(); e++) {
                    for (int v = 0; v < rooms.size(); v++) {
                        if (why(order, w, slot, e, v) == 0) {
                            int escort = e;
                            here.add(new int[] {(int) taken(m -> m.escort == escort && m.week == w), e, v, slot});
                        }
                    }
                }
                Optional<int[]> first = here.stream().min(Comparator.<int[]>comparingInt(c -> c[0])
                        .thenComparingInt(c -> c[1]).thenComparingInt(c -> c[2]));
                if (first.isPresent()) {
                    return first;
                }
            }
            return Optional.empty();
        }

        int add(int order, int w, int slot, int escort, int venue) {
            meetings.add(new Meeting(next, order, w, slot, escort, venue, 0, true));
            return next++;
        }

        int planWeek(int w) {
            int planned = 0;
            while (true) {
                List<Integer> byDebt = new ArrayList<>();
                for (int o = 0; o < hours.size(); o++) {
                    if (owed(o, w) > 0) {
                        byDebt.add(o);
                    }
                }
                byDebt.sort(Comparator.<Integer>comparingInt(o -> -owed(o, w)).thenComparingInt(o -> o));
                boolean found = false;
                for (int o : byDebt) {
                    Optional<int[]> m = best(o, w);
                    if (m.isPresent()) {
                        add(o, w, m.get()[3], m.get()[1], m.get()[2]);
                        planned++;
                        found = true;
                        break;
                    }
                }
                if (!found) {
                    return planned;
                }
            }
        }

        int settleWeek(int status) {
            int count = 0;
            for (int i = 0; i < meetings.size(); i++) {
                if (meetings.get(i).status == 0 && meetings.get(i).week == week) {
                    meetings.set(i, meetings.get(i).with(status));
                    count++;
                }
            }
            return count;
        }

        void next() {
            week++;
            meetings.replaceAll(m -> week - m.week > 4 ? m.dropped() : m);
        }
    }

    World now = new World();
    final Deque<World> saved = new ArrayDeque<>();
    final StringBuilder text = new StringBuilder();

    private void save() {
        saved.addLast(now.copy());
        if (saved.size() > 4) {
            saved.removeFirst();
        }
    }

    private static void argument(boolean fine) {
        if (!fine) {
            throw new IllegalArgumentException();
        }
    }

    private static void index(boolean fine) {
        if (!fine) {
            throw new IndexOutOfBoundsException();
        }
    }

    private static void state(boolean fine) {
        if (!fine) {
            throw new IllegalStateException();
        }
    }

    private static boolean in(int x, int low, int high) {
        return low <= x && x <= high;
    }

    private boolean isOrder(int order) {
        return in(order, 0, now.hours.size() - 1);
    }

    private boolean isEscort(int escort) {
        return in(escort, 0, now.escorts.size() - 1);
    }

    private boolean isVenue(int venue) {
        return in(venue, 0, now.rooms.size() - 1);
    }

    private boolean isSetOfVenues(int set) {
        for (int bit = 0; bit < 32; bit++) {
            if ((set >>> bit & 1) == 1 && bit >= now.rooms.size()) {
                return false;
            }
        }
        return true;
    }

    int addOrder(int hours, int venues) {
        argument(in(hours, 0, 7) && isSetOfVenues(venues));
        state(now.hours.size() < 8);
        save();
        int[] weekly = new int[20];
        for (int w = now.week; w < 20; w++) {
            weekly[w] = hours;
        }
        now.hours.add(weekly);
        now.allowed.add(venues);
        return now.hours.size() - 1;
    }

    int change(int order, int week, int hours) {
        index(isOrder(order));
        argument(in(week, now.week, 19) && in(hours, 0, 7));
        save();
        return changeNow(order, week, hours);
    }

    private int changeNow(int order, int week, int hours) {
        int before = now.hours.get(order)[week];
        for (int w = week; w < 20; w++) {
            now.hours.get(order)[w] = hours;
        }
        return before;
    }

    int allow(int order, int venues) {
        index(isOrder(order));
        argument(isSetOfVenues(venues));
        save();
        return now.allowed.set(order, venues);
    }

    int addEscort(int slots, int limit) {
        argument(in(slots, 0, 268435455) && in(limit, 1, 20));
        state(now.escorts.size() < 6);
        save();
        now.escorts.add(new int[] {slots, limit});
        return now.escorts.size() - 1;
    }

    int setSlots(int escort, int slots) {
        index(isEscort(escort));
        argument(in(slots, 0, 268435455));
        save();
        int before = now.escorts.get(escort)[0];
        now.escorts.get(escort)[0] = slots;
        return before;
    }

    int addVenue(int rooms) {
        argument(in(rooms, 1, 4));
        state(now.rooms.size() < 5);
        save();
        now.rooms.add(rooms);
        return now.rooms.size() - 1;
    }

    int plan(int order, int week, int slot, int escort, int venue) {
        state(why(order, week, slot, escort, venue) == 0);
        save();
        return now.add(order, week, slot, escort, venue);
    }

    int planWeek(int week) {
        argument(in(week, 0, 19));
        state(week >= now.week);
        save();
        return now.planWeek(week);
    }

    private Meeting find(int number) {
        Optional<Meeting> m = now.meetings.stream().filter(x -> x.kept && x.number == number).findFirst();
        index(m.isPresent());
        return m.get();
    }

    int cancel(int meeting) {
        Meeting m = find(meeting);
        state(m.status == 0);
        save();
        now.meetings.remove(m);
        return m.week;
    }

    int tell(int meeting, boolean held) {
        Meeting m = find(meeting);
        state(m.status == 0 && m.week == now.week);
        save();
        return tellNow(m, held);
    }

    private int tellNow(Meeting m, boolean held) {
        now.meetings.set(now.meetings.indexOf(m), m.with(held ? 1 : 2));
        return now.owed(m.order, now.week);
    }

    int endWeek() {
        state(now.week < 19);
        save();
        return endWeekNow();
    }

    private int endWeekNow() {
        int missed = now.settleWeek(2);
        now.next();
        return missed;
    }

    int order(int order, int what) {
        index(isOrder(order));
        argument(in(what, 0, 6));
        return switch (what) {
            case 0 -> now.hours.get(order)[now.week];
            case 1 -> now.allowed.get(order);
            case 2 -> now.count(order, 1);
            case 3 -> now.count(order, 2);
            case 4 -> now.count(order, 0);
            case 5 -> now.owed(order, now.week);
            default -> java.util.Arrays.stream(now.hours.get(order)).sum();
        };
    }

    int hours(int order, int week) {
        index(isOrder(order));
        argument(in(week, 0, 19));
        return now.hours.get(order)[week];
    }

    int owed(int order, int week) {
        index(isOrder(order));
        argument(in(week, 0, 19));
        return now.owed(order, week);
    }

    int meeting(int meeting, int what) {
        Meeting m = find(meeting);
        argument(in(what, 0, 5));
        return new int[] {m.order, m.week, m.slot, m.escort, m.venue, m.status}[what];
    }

    int escort(int escort, int what) {
        index(isEscort(escort));
        argument(in(what, 0, 3));
        return switch (what) {
            case 0, 1 -> now.escorts.get(escort)[what];
            case 2 -> (int) now.taken(m -> m.escort == escort && m.week == now.week);
            default -> (int) now.meetings.stream().filter(m -> m.escort == escort && m.status == 1).count();
        };
    }

    int freeRooms(int venue, int week, int slot) {
        index(isVenue(venue));
        argument(in(week, 0, 19) && in(slot, 0, 27));
        return now.free(venue, week, slot);
    }

    int value(int what) {
        argument(in(what, 0, 9));
        return switch (what) {
            case 0 -> now.hours.size();
            case 1 -> now.escorts.size();
            case 2 -> now.rooms.size();
            case 3 -> now.kept().size();
            case 4 -> now.week;
            case 6 -> now.countAll(1);
            case 7 -> now.countAll(2);
            case 8 -> now.owedByAll(now.week);
            default -> now.next;
        };
    }

    int why(int order, int week, int slot, int escort, int venue) {
        index(isOrder(order) && isEscort(escort) && isVenue(venue));
        argument(in(week, 0, 19) && in(slot, 0, 27));
        return now.why(order, week, slot, escort, venue);
    }

    int firstSlot(int order, int week) {
        index(isOrder(order));
        argument(in(week, 0, 19));
        return now.best(order, week).map(m -> m[3]).orElse(-1);
    }

    int owedBehind(int week) {
        argument(in(week, 0, 19));
        state(week >= now.week);
        World then = now.copy();
        then.planWeek(week);
        return then.owedByAll(week);
    }

    int settledIn() {
        World then = now.copy();
        while (then.week < 20) {
            then.planWeek(then.week);
            then.settleWeek(1);
            if (then.owedByAll(then.week) == 0) {
                return then.week;
            }
            then.next();
        }
        return -1;
    }

    int gainBy(int escort, int week) {
        index(isEscort(escort));
        argument(in(week, 0, 19));
        state(week >= now.week);
        World then = now.copy();
        then.escorts.get(escort)[1] = 20;
        return then.planWeek(week) - now.copy().planWeek(week);
    }

    double kept() {
        double held = now.countAll(1);
        double missed = now.countAll(2);
        return held + missed == 0.0 ? 1.0 : held / (held + missed);
    }

    int append(int value) {
        argument(in(value, 0, 127));
        state(text.length() < 100);
        text.append((char) value);
        return text.length();
    }

    int clearText() {
        int before = text.length();
        text.setLength(0);
        return before;
    }

    private static final Pattern ORDER =
            Pattern.compile("c([0-7])([0-9]{1,2}):([0-7]);|p([0-9]{1,2});|([hm])([0-9]{1,2});|w;");
    private static final String WEEK = "(?:[01]?[0-9])";
    private static final Pattern START = Pattern.compile(
            "c[0-7]" + WEEK + ":[0-7];|p" + WEEK + ";|[hm][0-9]{1,2};|w;");

    /** The parts of the text that one order could begin with, spelt out, so that the longest of them can be found. */
    private static boolean canStand(String start) {
        return start.matches("|c|c[0-7]|c[0-7][0-9]{1,2}|c[0-7]" + WEEK + ":|c[0-7]" + WEEK + ":[0-7]|c[0-7]" + WEEK
                + ":[0-7];|p|p[0-9]{1,2}|p" + WEEK + ";|[hm]|[hm][0-9]{1,2}|[hm][0-9]{1,2};|w|w;");
    }

    static int syntaxError(String text) {
        int begin = 0;
        while (begin < text.length()) {
            Matcher whole = START.matcher(text).region(begin, text.length());
            if (whole.lookingAt()) {
                begin = whole.end();
                continue;
            }
            int end = begin;
            while (end < text.length() && canStand(text.substring(begin, end + 1))) {
                end++;
            }
            String stands = text.substring(begin, end);
            boolean digitFollows = end < text.length() && Character.isDigit(text.charAt(end));
            Matcher week = Pattern.compile("(c[0-7]|p)([2-9][0-9])").matcher(stands);
            return week.matches() && !digitFollows ? begin + week.start(2) : end;
        }
        return -1;
    }

    int carryOut() {
        int error = syntaxError(text.toString());
        if (error >= 0) {
            return -10 - error;
        }
        save();
        Matcher m = ORDER.matcher(text);
        int done = 0;
        while (m.find()) {
            try {
                carryOut(m);
            } catch (RuntimeException e) {
                return done;
            }
            done++;
        }
        return done;
    }

    private void carryOut(Matcher m) {
        if (m.group(1) != null) {
            index(isOrder(Integer.parseInt(m.group(1))));
            argument(Integer.parseInt(m.group(2)) >= now.week);
            changeNow(Integer.parseInt(m.group(1)), Integer.parseInt(m.group(2)), Integer.parseInt(m.group(3)));
        } else if (m.group(4) != null) {
            state(Integer.parseInt(m.group(4)) >= now.week);
            now.planWeek(Integer.parseInt(m.group(4)));
        } else if (m.group(5) != null) {
            Meeting told = find(Integer.parseInt(m.group(6)));
            state(told.status == 0 && told.week == now.week);
            tellNow(told, m.group(5).equals("h"));
        } else {
            state(now.week < 19);
            endWeekNow();
        }
    }

    int undo() {
        state(!saved.isEmpty());
        now = saved.removeLast();
        return saved.size();
    }

    long digest() {
        List<Integer> values = new ArrayList<>();
        values.add(text.length());
        for (int what = 0; what < 10; what++) {
            values.add(value(what));
        }
        for (int o = 0; o < now.hours.size(); o++) {
            for (int what = 0; what < 7; what++) {
                values.add(order(o, what));
            }
            for (int w = 0; w < 20; w++) {
                values.add(hours(o, w));
            }
        }
        for (int e = 0; e < now.escorts.size(); e++) {
            for (int what = 0; what < 4; what++) {
                values.add(escort(e, what));
            }
        }
        values.addAll(now.rooms);
        for (Meeting m : now.kept()) {
            values.add(m.number);
            for (int what = 0; what < 6; what++) {
                values.add(meeting(m.number, what));
            }
        }
        values.add(settledIn());
        values.add(saved.size());
        long h = 3739;
        for (int v : values) {
            h = 31 * h + v;
        }
        return h;
    }
}

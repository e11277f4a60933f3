import java.util.function.IntFunction;
import java.util.function.Supplier;

/** The sentences of "## Terms" about weeks, slots, orders, escorts, venues, meetings, and what is owed. */
final class EdgesOfTerms {
    private EdgesOfTerms() {
    }

    static void run() {
        Sentences.section("What it is");
        Sentences.saysNothingToTest("Meetings that are ordered: orders with hours a week");
        Sentences.says("An object is used for at most 512 calls after it has been made", EdgesOfTerms::manyCalls);
        Sentences.section("Terms");
        Sentences.saysNothingToTest("Weeks and slots.");
        Sentences.says("There are 20 weeks, numbered from 0", EdgesOfTerms::weeks);
        Sentences.says("each has 28 slots, numbered from 0", EdgesOfTerms::slots);
        Sentences.says("four a day: the slot t is on the day t / 4 (rounded down)", EdgesOfTerms::days);
        Sentences.says("The present week is 0 at first", EdgesOfTerms::firstWeek);
        Sentences.says("it ends when it is told so, and the next one is the present one then",
                EdgesOfTerms::weeksEndWhenTold);
        Sentences.saysNothingToTest("Orders.");
        Sentences.says("There are at most 8, numbered from 0.", EdgesOfTerms::eightOrders);
        Sentences.says("An order has hours for each week, 0 to 7", EdgesOfTerms::hoursForEachWeek);
        Sentences.says("a set of venues that it allows, told as a number (bit v for the venue v)",
                EdgesOfTerms::bitsOfVenues);
        Sentences.saysNothingToTest("Escorts.");
        Sentences.says("There are at most 6, numbered from 0.", EdgesOfTerms::sixEscorts);
        Sentences.says("a set of slots (bit t for the slot t), the same in each week", EdgesOfTerms::bitsOfSlots);
        Sentences.says("a limit, 1 to 20: so many meetings at most in a week", EdgesOfTerms::limits);
        Sentences.saysNothingToTest("Venues.");
        Sentences.says("There are at most 5, numbered from 0.", EdgesOfTerms::fiveVenues);
        Sentences.says("A venue has 1 to 4 rooms: so many meetings at most in a slot.", EdgesOfTerms::rooms);
        Sentences.saysNothingToTest("Meetings.");
        Sentences.says("A meeting is of an order, in a week and a slot, with an escort, at a venue",
                EdgesOfTerms::factsOfMeetings);
        Sentences.says("it takes an hour", EdgesOfTerms::anHour);
        Sentences.says("At most 60 are kept at a time", EdgesOfTerms::sixtyKept);
        Sentences.says("they are numbered from 0 in the order in which they were planned", EdgesOfTerms::numbers);
        Sentences.says("the number of a meeting that is cancelled is not used again, but by undo()",
                EdgesOfTerms::numbersOfCancelled);
        Sentences.says("A meeting is planned at first", EdgesOfTerms::plannedAtFirst);
        Sentences.says("one of the present week can be held or missed", EdgesOfTerms::ofThePresentWeek);
        Sentences.says("When the present week ends, the meetings of this week that are still planned are missed.",
                EdgesOfTerms::missedAtTheEnd);
        Sentences.saysNothingToTest("Owed.");
        Sentences.says("the sum of its hours for all weeks up to this one", EdgesOfTerms::owedSum);
        Sentences.says("minus the number of its meetings that were held, in whatever week", EdgesOfTerms::owedHeld);
        Sentences.says("and of those that are planned for weeks up to this one", EdgesOfTerms::owedPlanned);
        Sentences.says("not less than 0", EdgesOfTerms::owedNotNegative);
        Sentences.says("The constants: `NONE = -1`: There is no such thing.",
                () -> Check.same("NONE", MeetingOrders.NONE, -1));
        for (String part : new String[] {"orders", "values", "what if", "text", "state"}) {
            Sentences.saysNothingToTest("the interface says: ---- " + part + ".");
        }
    }

    private static void manyCalls() {
        MeetingOrders x = Made.keeping(59);
        int calls = 19 + 59;
        for (int number = 59; calls < 510; number++) {
            Check.same("call " + calls, x.planWeek(3), 1);
            Check.same("call " + (calls + 1), x.cancel(number), 3);
            calls += 2;
        }
        Check.same("call 511", x.plan(7, 4, 27, 5, 4), 59 + 216);
        Check.same("call 512", x.meeting(59 + 216, 2), 27);
    }

    private static void weeks() {
        Class<?> wrong = Twins.ARGUMENT;
        Supplier<MeetingOrders> small = Made::small;
        Twins.range("change, week", small, 0, 19, wrong, (x, week) -> x.change(0, week, 1));
        Twins.range("plan, week", small, 0, 19, wrong, (x, week) -> x.plan(0, week, 0, 0, 0));
        Twins.range("planWeek, week", small, 0, 19, wrong, (x, week) -> x.planWeek(week));
        Twins.range("hours, week", small, 0, 19, wrong, (x, week) -> x.hours(0, week));
        Twins.range("owed, week", small, 0, 19, wrong, (x, week) -> x.owed(0, week));
        Twins.range("freeRooms, week", small, 0, 19, wrong, (x, week) -> x.freeRooms(0, week, 0));
        Twins.range("why, week", small, 0, 19, wrong, (x, week) -> x.why(0, week, 0, 0, 0));
        Twins.range("firstSlot, week", small, 0, 19, wrong, (x, week) -> x.firstSlot(0, week));
        Twins.range("owedBehind, week", small, 0, 19, wrong, (x, week) -> x.owedBehind(week));
        Twins.range("gainBy, week", small, 0, 19, wrong, (x, week) -> x.gainBy(0, week));
    }

    private static void slots() {
        Class<?> wrong = Twins.ARGUMENT;
        Supplier<MeetingOrders> small = Made::small;
        Twins.range("plan, slot", small, 0, 27, wrong, (x, slot) -> x.plan(0, 0, slot, 0, 0));
        Twins.range("why, slot", small, 0, 27, wrong, (x, slot) -> x.why(0, 0, slot, 0, 0));
        Twins.range("freeRooms, slot", small, 0, 27, wrong, (x, slot) -> x.freeRooms(0, 0, slot));
        for (int slot = 0; slot < 28; slot++) {
            MeetingOrders x = Made.small();
            x.plan(0, 19, slot, 0, 0);
            for (int other = 0; other < 28; other++) {
                Check.same("rooms in " + other + " beside " + slot, x.freeRooms(0, 19, other), other == slot ? 1 : 2);
            }
        }
    }

    private static void days() {
        for (int slot = 0; slot < 28; slot++) {
            MeetingOrders x = Made.small();
            x.addEscort(Made.ALL, 20);
            x.plan(0, 3, slot, 0, 0);
            for (int other = 0; other < 28; other++) {
                int due = other / 4 == slot / 4 ? 3 : 0;
                Check.same("slot " + other + " beside " + slot, x.why(0, 3, other, 1, 0), due);
            }
        }
    }

    private static void firstWeek() {
        MeetingOrders x = new MeetingOrders();
        Check.same("the present week", x.value(4), 0);
        x.addOrder(1, 0);
        Check.same("its hours can be changed", x.change(0, 0, 2), 1);
    }

    private static void weeksEndWhenTold() {
        MeetingOrders x = Made.small();
        for (int week = 0; week < 19; week++) {
            x.planWeek(week);
            x.tell(2 * week, true);
            x.tell(2 * week + 1, true);
            Check.same("the present week, before it is told", x.value(4), week);
            Check.same("missed", x.endWeek(), 0);
            Check.same("the present week, when it is told", x.value(4), week + 1);
        }
        Twins.refused("a week behind the last", Twins.STATE, () -> Made.atWeek(Made.small(), 19), x2 -> x2.endWeek());
    }

    private static void eightOrders() {
        Supplier<MeetingOrders> seven = () -> Made.roomy(7, 1);
        Supplier<MeetingOrders> eight = () -> Made.roomy(8, 1);
        Check.same("the first", new MeetingOrders().addOrder(0, 0), 0);
        Check.same("the eighth", seven.get().addOrder(0, 0), 7);
        Twins.refused("the ninth", Twins.STATE, eight, x -> x.addOrder(0, 0));
        Twins.range("an order of none", MeetingOrders::new, 0, -1, Twins.INDEX, (x, order) -> x.order(order, 0));
        Twins.range("an order of seven", seven, 0, 6, Twins.INDEX, (x, order) -> x.order(order, 0));
        Twins.range("an order of eight", eight, 0, 7, Twins.INDEX, (x, order) -> x.order(order, 0));
    }

    private static void hoursForEachWeek() {
        MeetingOrders x = new MeetingOrders();
        x.addOrder(7, 0);
        for (int week = 0; week < 20; week++) {
            x.change(0, week, (3 * week + 1) % 8);
        }
        for (int week = 0; week < 20; week++) {
            Check.same("hours of the week " + week, x.hours(0, week), (3 * week + 1) % 8);
        }
        Twins.range("addOrder, hours", MeetingOrders::new, 0, 7, Twins.ARGUMENT, (y, hours) -> y.addOrder(hours, 0));
        Twins.range("change, hours", Made::small, 0, 7, Twins.ARGUMENT, (y, hours) -> y.change(0, 0, hours));
    }

    private static void bitsOfVenues() {
        for (int venue = 0; venue < 5; venue++) {
            MeetingOrders x = Made.roomy(1, 1);
            x.allow(0, 1 << venue);
            x.addOrder(1, 31 - (1 << venue));
            for (int other = 0; other < 5; other++) {
                Check.same("bit " + venue + " alone, venue " + other, x.why(0, 0, 0, 0, other), other == venue ? 0 : 2);
                Check.same("all but bit " + venue + ", venue " + other, x.why(1, 0, 0, 0, other), other == venue ? 2 : 0);
            }
        }
    }

    private static MeetingOrders withEscorts(int escorts) {
        MeetingOrders x = new MeetingOrders();
        for (int i = 0; i < escorts; i++) {
            x.addEscort(1 << i, i + 1);
        }
        return x;
    }

    private static void sixEscorts() {
        Check.same("the first", new MeetingOrders().addEscort(0, 1), 0);
        Check.same("the sixth", withEscorts(5).addEscort(0, 1), 5);
        Twins.refused("the seventh", Twins.STATE, () -> withEscorts(6), x -> x.addEscort(0, 1));
        Twins.range("an escort of none", MeetingOrders::new, 0, -1, Twins.INDEX, (x, escort) -> x.escort(escort, 0));
        Twins.range("an escort of five", () -> withEscorts(5), 0, 4, Twins.INDEX, (x, escort) -> x.escort(escort, 0));
        Twins.range("an escort of six", () -> withEscorts(6), 0, 5, Twins.INDEX, (x, escort) -> x.escort(escort, 0));
    }

    private static void bitsOfSlots() {
        for (int slot = 0; slot < 28; slot++) {
            MeetingOrders x = Made.small();
            x.setSlots(0, 1 << slot);
            for (int other = 0; other < 28; other++) {
                int due = other == slot ? 0 : 4;
                Check.same("bit " + slot + ", slot " + other, x.why(0, (slot + other) % 20, other, 0, 0), due);
            }
            for (int week = 0; week < 20; week++) {
                Check.same("bit " + slot + ", week " + week, x.firstSlot(0, week), slot);
            }
        }
    }

    private static MeetingOrders withLimit(int limit) {
        MeetingOrders x = new MeetingOrders();
        x.addVenue(4);
        x.addEscort(Made.ALL, limit);
        for (int i = 0; i < 8; i++) {
            x.addOrder(7, 1);
        }
        return x;
    }

    private static void limits() {
        for (int limit = 1; limit <= 20; limit++) {
            MeetingOrders x = withLimit(limit);
            Check.same("planWeek() with the limit " + limit, x.planWeek(4), limit);
            for (int i = 0; i < limit; i++) {
                Check.same("limit " + limit + ", meeting " + i, x.why(i % 8, 3, i, 0, 0), 0);
                x.plan(i % 8, 3, i, 0, 0);
            }
            Check.same("limit " + limit + " is met", x.why(7, 3, 27, 0, 0), 6);
            Check.throwsJust("limit " + limit + ", one more", Twins.STATE, () -> x.plan(7, 3, 27, 0, 0));
            Check.same("limit " + limit + ", no slot", x.firstSlot(7, 3), -1);
            Check.same("limit " + limit + ", another week", x.why(7, 2, 27, 0, 0), 0);
        }
        Twins.range("addEscort, limit", MeetingOrders::new, 1, 20, Twins.ARGUMENT, (x, limit) -> x.addEscort(0, limit));
    }

    private static MeetingOrders withVenues(int venues) {
        MeetingOrders x = new MeetingOrders();
        for (int i = 0; i < venues; i++) {
            x.addVenue(i % 4 + 1);
        }
        return x;
    }

    private static void fiveVenues() {
        Check.same("the first", new MeetingOrders().addVenue(1), 0);
        Check.same("the fifth", withVenues(4).addVenue(1), 4);
        Twins.refused("the sixth", Twins.STATE, () -> withVenues(5), x -> x.addVenue(1));
        Twins.range("a venue of none", MeetingOrders::new, 0, -1, Twins.INDEX, (x, v) -> x.freeRooms(v, 0, 0));
        Twins.range("a venue of four", () -> withVenues(4), 0, 3, Twins.INDEX, (x, v) -> x.freeRooms(v, 0, 0));
        Twins.range("a venue of five", () -> withVenues(5), 0, 4, Twins.INDEX, (x, v) -> x.freeRooms(v, 0, 0));
    }

    /** A venue with so many rooms, and more orders and escorts than it has rooms. */
    private static MeetingOrders withRooms(int rooms) {
        MeetingOrders x = new MeetingOrders();
        x.addVenue(rooms);
        for (int i = 0; i < 6; i++) {
            x.addEscort(1 << 9, 20);
            x.addOrder(1, 1);
        }
        return x;
    }

    private static void rooms() {
        for (int rooms = 1; rooms <= 4; rooms++) {
            MeetingOrders x = withRooms(rooms);
            Check.same("planWeek() with " + rooms + " rooms", x.planWeek(4), rooms);
            for (int i = 0; i < rooms; i++) {
                Check.same("room " + i + " of " + rooms, x.freeRooms(0, 3, 9), rooms - i);
                Check.same("room " + i + " of " + rooms, x.why(i, 3, 9, i, 0), 0);
                x.plan(i, 3, 9, i, 0);
            }
            Check.same("no room of " + rooms, x.freeRooms(0, 3, 9), 0);
            Check.same("no room of " + rooms, x.why(5, 3, 9, 5, 0), 7);
            Check.throwsJust("no room of " + rooms, Twins.STATE, () -> x.plan(5, 3, 9, 5, 0));
            Check.same("no room of " + rooms + ", no slot", x.firstSlot(5, 3), -1);
            Check.same(rooms + " rooms, another week", x.why(5, 2, 9, 5, 0), 0);
            Check.same(rooms + " rooms, another slot", x.freeRooms(0, 3, 8), rooms);
        }
        Twins.range("addVenue, rooms", MeetingOrders::new, 1, 4, Twins.ARGUMENT, (x, rooms) -> x.addVenue(rooms));
    }

    private static void factsAre(String when, MeetingOrders x, int number, int... facts) {
        for (int what = 0; what < facts.length; what++) {
            Check.same(when + ": meeting(" + number + ", " + what + ")", x.meeting(number, what), facts[what]);
        }
    }

    private static void factsOfMeetings() {
        MeetingOrders x = Made.large();
        x.plan(0, 0, 0, 0, 0);
        x.plan(7, 19, 27, 5, 4);
        x.plan(1, 18, 26, 3, 2);
        factsAre("the lowest of all", x, 0, 0, 0, 0, 0, 0);
        factsAre("the highest of all", x, 1, 7, 19, 27, 5, 4);
        factsAre("all different", x, 2, 1, 18, 26, 3, 2);
    }

    private static void anHour() {
        MeetingOrders x = Made.small();
        Check.same("two hours are owed", x.owed(0, 0), 2);
        x.plan(0, 0, 0, 0, 0);
        Check.same("by a meeting it is one", x.owed(0, 0), 1);
        x.plan(0, 0, 4, 0, 0);
        Check.same("by two it is none", x.owed(0, 0), 0);
    }

    private static void sixtyKept() {
        Check.same("the meeting 59 of 59 that are kept", Made.keeping(59).plan(7, 3, 0, 0, 0), 59);
        Check.same("59 are kept", Made.keeping(59).why(7, 3, 0, 0, 0), 0);
        Twins.refused("60 are kept", Twins.STATE, () -> Made.keeping(60), x -> x.plan(7, 3, 0, 0, 0));
        Check.same("60 are kept", Made.keeping(60).why(7, 3, 0, 0, 0), 8);
        MeetingOrders x = Made.keeping(60);
        x.cancel(0);
        Check.same("a cancelled one is not kept", x.value(3), 59);
        Check.same("so there is place for one", x.plan(7, 3, 0, 0, 0), 60);
        Check.throwsJust("and for no more", Twins.STATE, () -> x.plan(7, 4, 0, 0, 0));
        heldAndMissedAreKept();
    }

    private static void heldAndMissedAreKept() {
        MeetingOrders x = Made.keeping(60);
        x.endWeek();
        x.tell(0, true);
        x.tell(1, false);
        x.endWeek();
        Check.same("those that are held or missed are kept", x.value(3), 60);
        Check.same("and leave no place", x.why(7, 19, 0, 0, 0), 8);
        Made.atWeek(x, 5);
        Check.same("4 weeks later they are kept", x.why(7, 19, 0, 0, 0), 8);
        x.endWeek();
        Check.same("5 weeks later they are not", x.value(3), 4);
        Check.same("and leave place", x.why(7, 19, 0, 0, 0), 0);
    }

    private static void numbers() {
        MeetingOrders x = Made.large();
        Check.same("the number of the first", x.value(9), 0);
        Check.same("a late week first", x.plan(3, 19, 27, 5, 4), 0);
        Check.same("an early one then", x.plan(0, 0, 0, 0, 0), 1);
        x.planWeek(7);
        factsAre("the first of planWeek()", x, 2, 1, 7, 0);
        factsAre("the second of planWeek()", x, 3, 2, 7, 0);
        Check.same("the number of the next", x.value(9), 58);
        highNumbers();
    }

    /** About as many as can be planned within 512 calls. */
    private static void highNumbers() {
        MeetingOrders x = Made.large();
        for (int week = 0; week < 20; week += 5) {
            Made.atWeek(x, week);
            int first = x.value(9);
            Check.same("the week " + week, x.planWeek(week), 56);
            Check.same("the last of the week " + week, x.meeting(first + 55, 1), week);
        }
        for (int i = 0; i < 7; i++) {
            int first = 168 + 56 * i;
            for (int number = first; number < first + 56; number++) {
                Check.same("cancel(" + number + ")", x.cancel(number), 15);
            }
            Check.same("planned once more", x.planWeek(15), 56);
            factsAre("the first of them", x, first + 56, 0, 15, 0, 0, 0, 0);
        }
        Check.same("planned so far", x.value(5), 616);
        Check.same("the number of the next", x.value(9), 616);
        Check.same("the next", x.plan(7, 16, 27, 5, 4), 616);
        factsAre("the next", x, 616, 7, 16, 27, 5, 4, 0);
    }

    private static void numbersOfCancelled() {
        MeetingOrders x = Made.small();
        x.plan(0, 0, 0, 0, 0);
        x.plan(0, 0, 4, 0, 0);
        x.cancel(1);
        Check.same("behind a cancelled one", x.plan(0, 0, 4, 0, 0), 2);
        x.cancel(0);
        x.cancel(2);
        Check.same("behind all that are cancelled", x.plan(0, 0, 0, 0, 0), 3);
        x.undo();
        Check.same("undo() of plan()", x.plan(0, 1, 8, 0, 0), 3);
        x.cancel(3);
        x.undo();
        Check.same("undo() of cancel() brings the number back", x.meeting(3, 2), 8);
        Check.same("the next is another", x.plan(0, 0, 0, 0, 0), 4);
    }

    private static void plannedAtFirst() {
        MeetingOrders x = Made.small();
        x.plan(0, 0, 0, 0, 0);
        x.plan(0, 19, 0, 0, 0);
        x.planWeek(0);
        for (int number = 0; number < 3; number++) {
            Check.same("meeting " + number, x.meeting(number, 5), 0);
        }
        Check.same("held so far", x.value(6), 0);
        Check.same("missed so far", x.value(7), 0);
    }

    private static MeetingOrders threeWeeks() {
        MeetingOrders x = Made.small();
        for (int week = 0; week < 3; week++) {
            x.plan(0, week, 0, 0, 0);
            x.plan(0, week, 4, 0, 0);
        }
        x.tell(0, true);
        x.endWeek();
        return x;
    }

    private static void ofThePresentWeek() {
        MeetingOrders x = threeWeeks();
        x.tell(2, true);
        x.tell(3, false);
        Check.same("held", x.meeting(2, 5), 1);
        Check.same("missed", x.meeting(3, 5), 2);
        for (boolean held : new boolean[] {true, false}) {
            Twins.refused("a held one of the week before", Twins.STATE, EdgesOfTerms::threeWeeks, y -> y.tell(0, held));
            Twins.refused("a missed one of the week before", Twins.STATE, EdgesOfTerms::threeWeeks, y -> y.tell(1, held));
            Twins.refused("one of the next week", Twins.STATE, EdgesOfTerms::threeWeeks, y -> y.tell(4, held));
        }
    }

    private static void missedAtTheEnd() {
        MeetingOrders x = threeWeeks();
        x.tell(2, false);
        Check.same("the missed one of the first week", x.meeting(1, 5), 2);
        Check.same("missed by the second end", x.endWeek(), 1);
        int[] due = {1, 2, 2, 2, 0, 0};
        for (int number = 0; number < 6; number++) {
            Check.same("meeting " + number, x.meeting(number, 5), due[number]);
        }
        Check.same("missed so far", x.value(7), 3);
    }

    private static void owedSum() {
        MeetingOrders x = new MeetingOrders();
        x.addOrder(0, 0);
        for (int week = 0; week < 20; week++) {
            x.change(0, week, (5 * week + 3) % 8);
        }
        int sum = 0;
        for (int week = 0; week < 20; week++) {
            sum += (5 * week + 3) % 8;
            Check.same("up to the week " + week, x.owed(0, week), sum);
        }
        x.addOrder(7, 0);
        Check.same("the most of all", x.owed(1, 19), 140);
    }

    private static void owedHeld() {
        MeetingOrders x = Made.atWeek(Made.small(), 7);
        x.plan(0, 7, 0, 0, 0);
        Check.same("planned, a week before", x.owed(0, 6), 14);
        x.tell(0, true);
        for (int week = 0; week < 20; week++) {
            Check.same("held in the week 7, owed in " + week, x.owed(0, week), 2 * week + 1);
        }
        Made.atWeek(x, 12);
        Check.same("it is not kept any more", x.value(3), 0);
        Check.same("held in the week 7, owed in 0", x.owed(0, 0), 1);
        Check.same("held in the week 7, owed in 19", x.owed(0, 19), 39);
    }

    private static void owedPlanned() {
        MeetingOrders x = Made.small();
        x.plan(0, 7, 0, 0, 0);
        for (int week = 0; week < 20; week++) {
            Check.same("planned for 7, owed in " + week, x.owed(0, week), 2 * week + 2 - (week < 7 ? 0 : 1));
        }
        x.plan(0, 0, 0, 0, 0);
        x.tell(1, false);
        Check.same("missed", x.owed(0, 0), 2);
        x.cancel(0);
        Check.same("cancelled", x.owed(0, 7), 16);
        x.addOrder(3, 1);
        x.plan(1, 0, 4, 0, 0);
        Check.same("of another order", x.owed(0, 0), 2);
    }

    private static void owedNotNegative() {
        IntFunction<MeetingOrders> planned = count -> {
            MeetingOrders x = Made.small();
            for (int i = 0; i < count; i++) {
                x.plan(0, 0, 4 * i, 0, 0);
            }
            return x;
        };
        int[] due = {2, 1, 0, 0, 0};
        for (int count = 0; count < 5; count++) {
            MeetingOrders x = planned.apply(count);
            Check.same(count + " for two hours", x.owed(0, 0), due[count]);
            Check.same(count + " for two hours, order()", x.order(0, 5), due[count]);
            x.addOrder(6, 0);
            Check.same(count + " for two hours, of all", x.value(8), 6 + due[count]);
            Check.same(count + " for two hours, a week later", x.owed(0, 1), 4 - count);
            x.change(0, 0, 0);
            Check.same(count + " for none", x.owed(0, 19), 0);
        }
    }
}

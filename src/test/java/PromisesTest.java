import java.util.function.Consumer;
import java.util.function.LongSupplier;
import java.util.function.Supplier;

/** Each promise by its number: ordinary inputs, the edges that the document names, wrong inputs. */
public final class PromisesTest {
    private static final Class<?> INDEX = IndexOutOfBoundsException.class;
    private static final Class<?> ARGUMENT = IllegalArgumentException.class;
    private static final Class<?> STATE = IllegalStateException.class;

    private PromisesTest() {
    }

    public static void main(String[] args) {
        Check.endWithin(600);
        newObject();
        addOrder();
        change();
        allow();
        addEscort();
        setSlots();
        addVenue();
        plan();
        planWeek();
        planWeekChoosesOrders();
        planWeekPassesOver();
        planWeekChoosesMeetings();
        planWeekEndsAtSixty();
        cancel();
        tell();
        endWeek();
        endWeekDropsMeetings();
        order();
        hours();
        owed();
        meeting();
        escort();
        freeRooms();
        value();
        why();
        whyTellsTheFirstReason();
        firstSlot();
        owedBehind();
        settledIn();
        settledInDropsMeetings();
        gainBy();
        kept();
        append();
        clearText();
        carryOut();
        carryOutStops();
        syntaxErrors();
        undo();
        undoables();
        digest();
        Check.end();
    }

    private static void meetingIs(String when, MeetingOrders x, int number, int... facts) {
        for (int what = 0; what < facts.length; what++) {
            Check.same(when + ": meeting(" + number + ", " + what + ")", x.meeting(number, what), facts[what]);
        }
    }

    // Promise 1
    private static void newObject() {
        MeetingOrders x = new MeetingOrders();
        for (int what = 0; what <= 9; what++) {
            Check.same("1: value(" + what + ")", x.value(what), 0);
        }
        Check.same("1: kept()", x.kept(), 1.0);
        Check.same("1: clearText()", x.clearText(), 0);
        Check.same("1: settledIn()", x.settledIn(), 0);
        Check.refused(x, "1: undo()", STATE, x::undo);
        Check.same("1: NONE", MeetingOrders.NONE, -1);
    }

    // Promise 2
    private static void addOrder() {
        MeetingOrders x = new MeetingOrders();
        x.addVenue(1);
        x.addVenue(1);
        x.endWeek();
        x.endWeek();
        Check.same("2: the first order", x.addOrder(7, 3), 0);
        Check.same("2: hours before the present week", x.hours(0, 1), 0);
        Check.same("2: hours of the present week", x.hours(0, 2), 7);
        Check.same("2: hours of the last week", x.hours(0, 19), 7);
        Check.same("2: venues", x.order(0, 1), 3);
        Check.same("2: the second order, with neither hours nor venues", x.addOrder(0, 0), 1);
        Check.refused(x, "2: hours 8", ARGUMENT, () -> x.addOrder(8, 0));
        Check.refused(x, "2: hours -1", ARGUMENT, () -> x.addOrder(-1, 0));
        Check.refused(x, "2: venues -1", ARGUMENT, () -> x.addOrder(0, -1));
        Check.refused(x, "2: the least venues", ARGUMENT, () -> x.addOrder(0, Integer.MIN_VALUE));
        Check.refused(x, "2: a venue that there is not", ARGUMENT, () -> x.addOrder(0, 4));
        Check.refused(x, "2: one that there is, one that there is not", ARGUMENT, () -> x.addOrder(0, 5));
        for (int i = 2; i < 8; i++) {
            Check.same("2: order " + i, x.addOrder(1, 1), i);
        }
        Check.refused(x, "2: the ninth order", STATE, () -> x.addOrder(1, 1));
        Check.refused(x, "2: the ninth order, wrong too", ARGUMENT, () -> x.addOrder(8, 1));
        Check.refused(x, "2: the ninth order, its venues wrong", ARGUMENT, () -> x.addOrder(1, 4));
    }

    // Promise 3
    private static void change() {
        MeetingOrders x = Made.small();
        Check.same("3: the hours before", x.change(0, 5, 7), 2);
        Check.same("3: the week before", x.hours(0, 4), 2);
        Check.same("3: the week", x.hours(0, 5), 7);
        Check.same("3: the last week", x.hours(0, 19), 7);
        Check.same("3: a week in between", x.change(0, 3, 0), 2);
        Check.same("3: later weeks change too", x.hours(0, 10), 0);
        Check.same("3: the last week alone", x.change(0, 19, 1), 0);
        Check.same("3: the week before the last", x.hours(0, 18), 0);
        x.endWeek();
        Check.same("3: the present week", x.change(0, 1, 3), 2);
        Check.same("3: the past stays", x.hours(0, 0), 2);
        Check.refused(x, "3: a past week", ARGUMENT, () -> x.change(0, 0, 1));
        Check.refused(x, "3: week 20", ARGUMENT, () -> x.change(0, 20, 1));
        Check.refused(x, "3: week -1", ARGUMENT, () -> x.change(0, -1, 1));
        Check.refused(x, "3: hours 8", ARGUMENT, () -> x.change(0, 1, 8));
        Check.refused(x, "3: hours -1", ARGUMENT, () -> x.change(0, 1, -1));
        Check.refused(x, "3: order 1", INDEX, () -> x.change(1, 1, 1));
        Check.refused(x, "3: order -1, all wrong", INDEX, () -> x.change(-1, 20, 8));
        x.addOrder(5, 1);
        x.change(0, 1, 6);
        Check.same("3: other orders stay", x.hours(1, 1), 5);
    }

    // Promise 4
    private static void allow() {
        MeetingOrders x = Made.small();
        x.addVenue(1);
        x.plan(0, 0, 0, 0, 0);
        Check.same("4: the set before", x.allow(0, 2), 1);
        Check.same("4: the new set", x.order(0, 1), 2);
        Check.same("4: meetings stay", x.value(3), 1);
        Check.same("4: planning keeps to the new set", x.why(0, 0, 4, 0, 0), 2);
        Check.same("4: none", x.allow(0, 0), 2);
        Check.same("4: all", x.allow(0, 3), 0);
        Check.refused(x, "4: venues -1", ARGUMENT, () -> x.allow(0, -1));
        Check.refused(x, "4: a venue that there is not", ARGUMENT, () -> x.allow(0, 4));
        Check.refused(x, "4: order 1", INDEX, () -> x.allow(1, 1));
        Check.refused(x, "4: order -1 and venues -1", INDEX, () -> x.allow(-1, -1));
    }

    // Promise 5
    private static void addEscort() {
        MeetingOrders x = new MeetingOrders();
        Check.same("5: the first escort", x.addEscort(0, 1), 0);
        Check.same("5: the second escort", x.addEscort(Made.ALL, 20), 1);
        Check.same("5: no slots", x.escort(0, 0), 0);
        Check.same("5: limit 1", x.escort(0, 1), 1);
        Check.same("5: all slots", x.escort(1, 0), Made.ALL);
        Check.same("5: limit 20", x.escort(1, 1), 20);
        Check.refused(x, "5: slots -1", ARGUMENT, () -> x.addEscort(-1, 1));
        Check.refused(x, "5: slots 2^28", ARGUMENT, () -> x.addEscort(Made.ALL + 1, 1));
        Check.refused(x, "5: limit 0", ARGUMENT, () -> x.addEscort(0, 0));
        Check.refused(x, "5: limit 21", ARGUMENT, () -> x.addEscort(0, 21));
        for (int i = 2; i < 6; i++) {
            Check.same("5: escort " + i, x.addEscort(1, 1), i);
        }
        Check.refused(x, "5: the seventh escort", STATE, () -> x.addEscort(0, 1));
        Check.refused(x, "5: the seventh escort, its limit wrong", ARGUMENT, () -> x.addEscort(0, 0));
        Check.refused(x, "5: the seventh escort, its slots wrong", ARGUMENT, () -> x.addEscort(-1, 1));
    }

    // Promise 6
    private static void setSlots() {
        MeetingOrders x = Made.small();
        x.plan(0, 0, 3, 0, 0);
        Check.same("6: the set before", x.setSlots(0, 16), Made.ALL);
        Check.same("6: the new set", x.escort(0, 0), 16);
        Check.same("6: meetings stay", x.value(3), 1);
        Check.same("6: a slot that the escort has", x.why(0, 0, 4, 0, 0), 0);
        Check.same("6: a slot that the escort has no more", x.why(0, 0, 5, 0, 0), 4);
        Check.same("6: another week is the same", x.why(0, 7, 5, 0, 0), 4);
        Check.same("6: none", x.setSlots(0, 0), 16);
        Check.same("6: all", x.setSlots(0, Made.ALL), 0);
        Check.refused(x, "6: slots -1", ARGUMENT, () -> x.setSlots(0, -1));
        Check.refused(x, "6: slots 2^28", ARGUMENT, () -> x.setSlots(0, Made.ALL + 1));
        Check.refused(x, "6: escort 1", INDEX, () -> x.setSlots(1, 0));
        Check.refused(x, "6: escort -1 and slots -1", INDEX, () -> x.setSlots(-1, -1));
    }

    // Promise 7
    private static void addVenue() {
        MeetingOrders x = new MeetingOrders();
        Check.refused(x, "7: no rooms", ARGUMENT, () -> x.addVenue(0));
        Check.refused(x, "7: five rooms", ARGUMENT, () -> x.addVenue(5));
        Check.refused(x, "7: rooms -1", ARGUMENT, () -> x.addVenue(-1));
        for (int i = 0; i < 5; i++) {
            int rooms = i % 4 + 1;
            Check.same("7: venue " + i, x.addVenue(rooms), i);
            Check.same("7: its rooms", x.freeRooms(i, 19, 27), rooms);
        }
        Check.refused(x, "7: the sixth venue", STATE, () -> x.addVenue(1));
        Check.refused(x, "7: the sixth venue, wrong too", ARGUMENT, () -> x.addVenue(5));
    }

    // Promise 8
    private static void plan() {
        MeetingOrders x = Made.small();
        Check.same("8: the first meeting", x.plan(0, 0, 0, 0, 0), 0);
        Check.same("8: a later week", x.plan(0, 19, 27, 0, 0), 1);
        Check.same("8: more than is owed", x.plan(0, 0, 27, 0, 0), 2);
        Check.same("8: again", x.plan(0, 0, 8, 0, 0), 3);
        meetingIs("8", x, 1, 0, 19, 27, 0, 0, 0);
        Check.refused(x, "8: the day is taken", STATE, () -> x.plan(0, 0, 3, 0, 0));
        Check.refused(x, "8: week 20", ARGUMENT, () -> x.plan(0, 20, 0, 0, 0));
        Check.refused(x, "8: week -1", ARGUMENT, () -> x.plan(0, -1, 0, 0, 0));
        Check.refused(x, "8: slot 28", ARGUMENT, () -> x.plan(0, 0, 28, 0, 0));
        Check.refused(x, "8: slot -1", ARGUMENT, () -> x.plan(0, 0, -1, 0, 0));
        Check.refused(x, "8: order 1", INDEX, () -> x.plan(1, 0, 0, 0, 0));
        Check.refused(x, "8: escort 1", INDEX, () -> x.plan(0, 0, 0, 1, 0));
        Check.refused(x, "8: venue 1", INDEX, () -> x.plan(0, 0, 0, 0, 1));
        Check.refused(x, "8: order -1", INDEX, () -> x.plan(-1, 0, 0, 0, 0));
        Check.refused(x, "8: escort -1", INDEX, () -> x.plan(0, 0, 0, -1, 0));
        Check.refused(x, "8: venue -1, week and slot wrong", INDEX, () -> x.plan(0, 20, 28, 0, -1));
        x.endWeek();
        Check.refused(x, "8: a past week", STATE, () -> x.plan(0, 0, 12, 0, 0));
        Check.refused(x, "8: a past week, the slot wrong", ARGUMENT, () -> x.plan(0, 0, 28, 0, 0));
        MeetingOrders y = Made.large();
        y.planWeek(0);
        y.planWeek(1);
        Check.refused(y, "8: the meeting 60", STATE, () -> y.plan(0, 2, 0, 0, 0));
        y.cancel(5);
        Check.same("8: room for one again, with a new number", y.plan(0, 2, 0, 0, 0), 60);
        Check.refused(y, "8: 60 again", STATE, () -> y.plan(0, 2, 4, 0, 0));
    }

    // Promise 9
    private static void planWeek() {
        MeetingOrders x = Made.small();
        Check.same("9: planned", x.planWeek(0), 2);
        Check.same("9: nothing is owed", x.planWeek(0), 0);
        meetingIs("9: the lowest slot", x, 0, 0, 0, 0, 0, 0, 0);
        meetingIs("9: the next day", x, 1, 0, 0, 4, 0, 0, 0);
        Check.same("9: a later week serves all that is owed up to it", x.planWeek(3), 6);
        Check.same("9: a week in between owes still", x.owed(0, 1), 2);
        Check.same("9: and can be planned", x.planWeek(1), 2);
        Check.refused(x, "9: week 20", ARGUMENT, () -> x.planWeek(20));
        Check.refused(x, "9: week -1", ARGUMENT, () -> x.planWeek(-1));
        x.endWeek();
        Check.refused(x, "9: a past week", STATE, () -> x.planWeek(0));
        Check.same("9: nothing to plan with", new MeetingOrders().planWeek(19), 0);
        MeetingOrders y = Made.atWeek(Made.small(), 19);
        Check.same("9: one meeting a day at most", y.planWeek(19), 7);
        Check.same("9: the rest stays owed", y.owed(0, 19), 33);
    }

    private static void planWeekChoosesOrders() {
        MeetingOrders x = new MeetingOrders();
        x.addVenue(1);
        x.addEscort(0b11111, 20);
        x.addOrder(1, 1);
        x.addOrder(3, 1);
        x.addOrder(3, 1);
        x.addOrder(7, 0);
        x.addOrder(2, 1);
        Check.same("9: two of a day, and then the next", x.planWeek(0), 4 + 1);
        meetingIs("9: the greatest debt that can be served", x, 0, 1, 0, 0);
        meetingIs("9: then the other great one", x, 1, 2, 0, 1);
        meetingIs("9: of several the lowest number", x, 2, 1, 0, 4);
        meetingIs("9: the order 2 has no day left, the order 4 is next", x, 3, 4, 0, 2);
        meetingIs("9: the last one", x, 4, 0, 0, 3);
    }

    private static void planWeekPassesOver() {
        MeetingOrders x = new MeetingOrders();
        x.addVenue(1);
        x.addEscort(Made.ALL, 20);
        x.addOrder(1, 0);
        x.addOrder(1, 1);
        x.addOrder(2, 0);
        x.addOrder(1, 1);
        Check.same("9: those are passed over for which none can be planned", x.planWeek(0), 2);
        meetingIs("9: the first of the others", x, 0, 1, 0, 0);
        meetingIs("9: the second of the others", x, 1, 3, 0, 1);
    }

    private static void planWeekChoosesMeetings() {
        MeetingOrders x = new MeetingOrders();
        x.addVenue(1);
        x.addVenue(1);
        x.addVenue(2);
        x.addEscort(0b10010, 20);
        x.addEscort(0b10010, 20);
        x.addEscort(0b10000, 20);
        x.addOrder(0, 7);
        x.addOrder(1, 6);
        x.addOrder(1, 6);
        x.plan(0, 0, 4, 0, 1);
        x.planWeek(0);
        meetingIs("9: the lowest slot, the fewest meetings, the lowest venue allowed", x, 1, 1, 0, 1, 1, 1, 0);
        meetingIs("9: the escort who is left, the venue that has a room", x, 2, 2, 0, 1, 0, 2, 0);
        x.addOrder(1, 6);
        x.addOrder(1, 6);
        Check.same("9: one by the fewest, one by the lowest escort", x.planWeek(0), 2);
        meetingIs("9: the escort without meetings", x, 3, 3, 0, 4, 2, 2, 0);
        meetingIs("9: the last escort of the slot", x, 4, 4, 0, 4, 1, 2, 0);

        MeetingOrders y = new MeetingOrders();
        y.addVenue(4);
        y.addEscort(1, 1);
        y.addEscort(Made.ALL, 2);
        y.addEscort(Made.ALL, 2);
        y.addOrder(5, 1);
        Check.same("9: limits end it", y.planWeek(0), 5);
        meetingIs("9: of several the lowest escort", y, 0, 0, 0, 0, 0);
        meetingIs("9: others then", y, 1, 0, 0, 4, 1);
        meetingIs("9: the fewest meetings", y, 2, 0, 0, 8, 2);
        meetingIs("9: again the lowest", y, 3, 0, 0, 12, 1);
        y.tell(1, false);
        y.tell(2, true);
        Check.same("9: a missed meeting leaves the limit free, a held one does not", y.planWeek(0), 1);
        meetingIs("9: in the day of the missed one", y, 5, 0, 0, 4, 1);
    }

    private static void planWeekEndsAtSixty() {
        MeetingOrders x = Made.large();
        Check.same("9: a day for each order and day", x.planWeek(0), 56);
        Check.same("9: 60 are kept", x.planWeek(1), 4);
        Check.same("9: still 60", x.planWeek(2), 0);
        Check.same("9: kept", x.value(3), 60);
    }

    // Promise 10
    private static void cancel() {
        MeetingOrders x = Made.small();
        x.plan(0, 0, 0, 0, 0);
        x.plan(0, 7, 0, 0, 0);
        x.plan(0, 3, 0, 0, 0);
        Check.same("10: its week", x.cancel(1), 7);
        Check.same("10: kept", x.value(3), 2);
        Check.same("10: planned so far", x.value(5), 3);
        Check.refused(x, "10: it is not kept any more", INDEX, () -> x.cancel(1));
        Check.same("10: the place is free", x.why(0, 7, 0, 0, 0), 0);
        meetingIs("10: the others stay", x, 0, 0, 0, 0, 0, 0, 0);
        meetingIs("10: the others stay", x, 2, 0, 3, 0, 0, 0, 0);
        Check.same("10: the number is not used again", x.plan(0, 7, 0, 0, 0), 3);
        x.tell(0, true);
        Check.refused(x, "10: a held one", STATE, () -> x.cancel(0));
        x.endWeek();
        Check.refused(x, "10: a held one of a past week", STATE, () -> x.cancel(0));
        Check.refused(x, "10: meeting -1", INDEX, () -> x.cancel(-1));
        Check.refused(x, "10: meeting 4", INDEX, () -> x.cancel(4));
        x.plan(0, 1, 0, 0, 0);
        x.tell(4, false);
        Check.refused(x, "10: a missed one", STATE, () -> x.cancel(4));
        Check.same("10: the last one", x.cancel(2), 3);
        x.undo();
        Check.same("10: by undo() it is kept again", x.cancel(2), 3);
        Check.same("10: a number is free again by undo()", cancelledByUndo(), 0);
        MeetingOrders y = Made.large();
        y.plan(0, 0, 0, 0, 0);
        y.plan(5, 3, 9, 4, 2);
        y.plan(7, 1, 27, 5, 3);
        y.cancel(0);
        meetingIs("10: nothing of the next one changes", y, 1, 5, 3, 9, 4, 2, 0);
        meetingIs("10: nothing of the last one changes", y, 2, 7, 1, 27, 5, 3, 0);
    }

    private static int cancelledByUndo() {
        MeetingOrders x = Made.small();
        x.plan(0, 0, 0, 0, 0);
        x.undo();
        return x.plan(0, 0, 0, 0, 0);
    }

    // Promise 11
    private static void tell() {
        MeetingOrders x = Made.small();
        x.planWeek(0);
        x.plan(0, 1, 0, 0, 0);
        Check.same("11: held", x.tell(0, true), 0);
        Check.same("11: missed", x.tell(1, false), 1);
        Check.same("11: it is held", x.meeting(0, 5), 1);
        Check.same("11: it is missed", x.meeting(1, 5), 2);
        Check.refused(x, "11: held already", STATE, () -> x.tell(0, false));
        Check.refused(x, "11: missed already", STATE, () -> x.tell(1, true));
        Check.refused(x, "11: of a later week", STATE, () -> x.tell(2, true));
        Check.refused(x, "11: meeting 3", INDEX, () -> x.tell(3, true));
        Check.refused(x, "11: meeting -1", INDEX, () -> x.tell(-1, true));
        x.endWeek();
        Check.same("11: in its week", x.tell(2, true), 2);
        Check.same("11: by the escort", x.escort(0, 3), 2);
    }

    // Promise 12
    private static void endWeek() {
        MeetingOrders x = Made.small();
        x.planWeek(0);
        x.plan(0, 1, 0, 0, 0);
        x.plan(0, 0, 8, 0, 0);
        x.tell(0, true);
        Check.same("12: missed by it", x.endWeek(), 2);
        Check.same("12: the present week", x.value(4), 1);
        Check.same("12: missed", x.meeting(1, 5), 2);
        Check.same("12: held stays", x.meeting(0, 5), 1);
        Check.same("12: a later one stays planned", x.meeting(2, 5), 0);
        Check.same("12: missed so far", x.value(7), 2);
        Check.same("12: a week with one", x.endWeek(), 1);
        Check.same("12: a week with none", x.endWeek(), 0);
        Made.atWeek(x, 19);
        Check.refused(x, "12: the last week", STATE, x::endWeek);
    }

    private static void endWeekDropsMeetings() {
        MeetingOrders x = Made.small();
        x.plan(0, 1, 0, 0, 0);
        x.plan(0, 0, 0, 0, 0);
        x.plan(0, 0, 4, 0, 0);
        x.plan(0, 2, 0, 0, 0);
        x.tell(1, true);
        Made.atWeek(x, 4);
        Check.same("12: 4 weeks before is kept", x.value(3), 4);
        Check.same("12: its rooms are taken", x.freeRooms(0, 0, 0), 1);
        x.endWeek();
        Check.same("12: 5 weeks before is not kept", x.value(3), 2);
        Check.refused(x, "12: a dropped one", INDEX, () -> x.meeting(1, 0));
        Check.refused(x, "12: the other dropped one", INDEX, () -> x.meeting(2, 0));
        meetingIs("12: the week 1 is kept", x, 0, 0, 1, 0, 0, 0, 2);
        meetingIs("12: the week 2 is kept", x, 3, 0, 2, 0, 0, 0, 2);
        Check.same("12: its rooms are free", x.freeRooms(0, 0, 0), 2);
        Check.same("12: it still counts for what is owed", x.owed(0, 5), 11);
        Check.same("12: held so far", x.value(6), 1);
        Check.same("12: missed so far", x.value(7), 3);
        Check.same("12: held so far by the order", x.order(0, 2), 1);
        Check.same("12: missed so far by the order", x.order(0, 3), 3);
        Check.same("12: held so far with the escort", x.escort(0, 3), 1);
        Check.same("12: planned so far", x.value(5), 4);
        Check.same("12: the share", x.kept(), 0.25);
        x.endWeek();
        Check.same("12: the next one", x.value(3), 1);
        Check.same("12: the next number", x.plan(0, 6, 0, 0, 0), 4);
    }

    // Promise 13
    private static void order() {
        MeetingOrders x = Made.small();
        x.endWeek();
        x.addOrder(3, 1);
        x.change(1, 10, 5);
        x.change(1, 2, 4);
        int[] due = {3, 1, 0, 0, 0, 3, 3 + 18 * 4};
        for (int what = 0; what <= 6; what++) {
            Check.same("13: order(1, " + what + ")", x.order(1, what), due[what]);
        }
        x.plan(1, 1, 0, 0, 0);
        x.plan(1, 1, 4, 0, 0);
        x.plan(1, 1, 8, 0, 0);
        x.plan(1, 1, 12, 0, 0);
        x.plan(1, 5, 0, 0, 0);
        x.plan(0, 1, 1, 0, 0);
        x.tell(0, true);
        x.tell(1, false);
        x.tell(2, false);
        int[] then = {3, 1, 1, 2, 2, 1, 75};
        for (int what = 0; what <= 6; what++) {
            Check.same("13: then order(1, " + what + ")", x.order(1, what), then[what]);
        }
        x.plan(1, 19, 0, 0, 0);
        Check.same("13: planned for the last week", x.order(1, 4), 3);
        Check.refused(x, "13: what -1", ARGUMENT, () -> x.order(0, -1));
        Check.refused(x, "13: what 7", ARGUMENT, () -> x.order(0, 7));
        Check.refused(x, "13: order 2", INDEX, () -> x.order(2, 0));
        Check.refused(x, "13: order -1 and what 7", INDEX, () -> x.order(-1, 7));
    }

    // Promise 14
    private static void hours() {
        MeetingOrders x = Made.atWeek(Made.small(), 3);
        x.change(0, 4, 6);
        Check.same("14: a past week", x.hours(0, 0), 2);
        Check.same("14: the present week", x.hours(0, 3), 2);
        Check.same("14: a later week", x.hours(0, 19), 6);
        Check.refused(x, "14: week 20", ARGUMENT, () -> x.hours(0, 20));
        Check.refused(x, "14: week -1", ARGUMENT, () -> x.hours(0, -1));
        Check.refused(x, "14: order 1", INDEX, () -> x.hours(1, 0));
        Check.refused(x, "14: order -1 and week -1", INDEX, () -> x.hours(-1, -1));
    }

    // Promise 15
    private static void owed() {
        MeetingOrders x = Made.small();
        Check.same("15: the first week", x.owed(0, 0), 2);
        Check.same("15: the last week", x.owed(0, 19), 40);
        x.plan(0, 2, 0, 0, 0);
        Check.same("15: planned for a later week", x.owed(0, 1), 4);
        Check.same("15: planned for this week", x.owed(0, 2), 5);
        Check.same("15: planned for an earlier week", x.owed(0, 3), 7);
        Made.atWeek(x, 2);
        x.tell(0, true);
        Check.same("15: held in whatever week", x.owed(0, 0), 1);
        for (int day = 1; day < 4; day++) {
            x.plan(0, 2, 4 * day, 0, 0);
            x.tell(day, true);
        }
        Check.same("15: not less than 0", x.owed(0, 0), 0);
        Check.same("15: but what is too much counts later", x.owed(0, 2), 2);
        x.plan(0, 2, 16, 0, 0);
        x.tell(4, false);
        Check.same("15: a missed one does not count", x.owed(0, 2), 2);
        Check.refused(x, "15: week 20", ARGUMENT, () -> x.owed(0, 20));
        Check.refused(x, "15: week -1", ARGUMENT, () -> x.owed(0, -1));
        Check.refused(x, "15: order 1", INDEX, () -> x.owed(1, 0));
        Check.refused(x, "15: order -1 and week -1", INDEX, () -> x.owed(-1, -1));
    }

    // Promise 16
    private static void meeting() {
        MeetingOrders x = Made.large();
        x.plan(7, 0, 26, 5, 4);
        x.plan(3, 12, 9, 2, 1);
        meetingIs("16", x, 0, 7, 0, 26, 5, 4, 0);
        meetingIs("16", x, 1, 3, 12, 9, 2, 1, 0);
        x.tell(0, true);
        meetingIs("16: held", x, 0, 7, 0, 26, 5, 4, 1);
        Check.refused(x, "16: what -1", ARGUMENT, () -> x.meeting(0, -1));
        Check.refused(x, "16: what 6", ARGUMENT, () -> x.meeting(0, 6));
        Check.refused(x, "16: meeting 2", INDEX, () -> x.meeting(2, 0));
        Check.refused(x, "16: meeting -1 and what 6", INDEX, () -> x.meeting(-1, 6));
        x.cancel(1);
        Check.refused(x, "16: a cancelled one", INDEX, () -> x.meeting(1, 0));
    }

    // Promise 17
    private static void escort() {
        MeetingOrders x = Made.small();
        x.addEscort(5, 3);
        int[] due = {5, 3, 0, 0};
        for (int what = 0; what <= 3; what++) {
            Check.same("17: escort(1, " + what + ")", x.escort(1, what), due[what]);
        }
        x.plan(0, 0, 0, 0, 0);
        x.plan(0, 0, 4, 0, 0);
        x.plan(0, 0, 8, 0, 0);
        x.plan(0, 1, 2, 1, 0);
        x.tell(0, true);
        x.tell(1, false);
        Check.same("17: planned or held in the present week", x.escort(0, 2), 2);
        Check.same("17: held so far", x.escort(0, 3), 1);
        Check.same("17: a later week does not count", x.escort(1, 2), 0);
        x.endWeek();
        Check.same("17: the new week", x.escort(0, 2), 0);
        Check.same("17: the new week, the other", x.escort(1, 2), 1);
        Check.same("17: still held so far", x.escort(0, 3), 1);
        Check.refused(x, "17: what -1", ARGUMENT, () -> x.escort(0, -1));
        Check.refused(x, "17: what 4", ARGUMENT, () -> x.escort(0, 4));
        Check.refused(x, "17: escort 2", INDEX, () -> x.escort(2, 0));
        Check.refused(x, "17: escort -1 and what 4", INDEX, () -> x.escort(-1, 4));
    }

    // Promise 18
    private static void freeRooms() {
        MeetingOrders x = Made.large();
        Check.same("18: none taken", x.freeRooms(1, 0, 6), 4);
        x.plan(0, 0, 6, 0, 1);
        x.plan(1, 0, 6, 1, 1);
        x.plan(2, 0, 6, 2, 1);
        x.plan(3, 0, 6, 3, 2);
        x.plan(3, 1, 6, 3, 1);
        Check.same("18: three taken", x.freeRooms(1, 0, 6), 1);
        x.tell(0, true);
        Check.same("18: a held one counts", x.freeRooms(1, 0, 6), 1);
        x.tell(1, false);
        Check.same("18: a missed one does not", x.freeRooms(1, 0, 6), 2);
        Check.same("18: another slot", x.freeRooms(1, 0, 7), 4);
        Check.same("18: another venue", x.freeRooms(2, 0, 6), 3);
        Check.same("18: another week", x.freeRooms(1, 1, 6), 3);
        x.endWeek();
        Check.same("18: a past week", x.freeRooms(1, 0, 6), 3);
        Check.refused(x, "18: week 20", ARGUMENT, () -> x.freeRooms(0, 20, 0));
        Check.refused(x, "18: week -1", ARGUMENT, () -> x.freeRooms(0, -1, 0));
        Check.refused(x, "18: slot 28", ARGUMENT, () -> x.freeRooms(0, 0, 28));
        Check.refused(x, "18: slot -1", ARGUMENT, () -> x.freeRooms(0, 0, -1));
        Check.refused(x, "18: venue 5", INDEX, () -> x.freeRooms(5, 0, 0));
        Check.refused(x, "18: venue -1 and week 20", INDEX, () -> x.freeRooms(-1, 20, 0));
    }

    // Promise 19
    private static void value() {
        MeetingOrders x = new MeetingOrders();
        x.addVenue(4);
        x.addVenue(4);
        x.addVenue(4);
        x.addEscort(Made.ALL, 20);
        x.addEscort(Made.ALL, 20);
        x.addOrder(2, 7);
        x.addOrder(3, 7);
        x.addOrder(0, 7);
        x.addOrder(0, 7);
        for (int day = 0; day < 5; day++) {
            x.plan(0, 0, 4 * day, 0, 0);
        }
        x.plan(1, 0, 0, 1, 0);
        x.plan(1, 2, 0, 1, 0);
        x.tell(0, true);
        x.tell(1, true);
        x.tell(2, true);
        x.tell(3, false);
        x.cancel(5);
        x.endWeek();
        int[] due = {4, 2, 3, 6, 1, 7, 3, 2, 1 + 6, 7};
        for (int what = 0; what <= 9; what++) {
            Check.same("19: value(" + what + ")", x.value(what), due[what]);
        }
        Check.refused(x, "19: what -1", ARGUMENT, () -> x.value(-1));
        Check.refused(x, "19: what 10", ARGUMENT, () -> x.value(10));
    }

    // Promise 20
    private static void why() {
        MeetingOrders x = new MeetingOrders();
        x.addVenue(1);
        x.addVenue(1);
        x.addEscort(Made.ALL, 2);
        x.addEscort(Made.ALL - 128, 20);
        x.addOrder(1, 1);
        x.addOrder(1, 3);
        x.endWeek();
        x.plan(0, 1, 0, 0, 0);
        x.plan(0, 1, 4, 0, 0);
        Check.same("20: it can be planned", x.why(1, 1, 8, 1, 1), 0);
        Check.same("20: a past week", x.why(1, 0, 8, 1, 1), 1);
        Check.same("20: the venue", x.why(0, 1, 8, 1, 1), 2);
        Check.same("20: the day", x.why(0, 1, 3, 1, 0), 3);
        Check.same("20: another week", x.why(0, 2, 3, 1, 0), 0);
        Check.same("20: the escort's slot", x.why(1, 1, 7, 1, 1), 4);
        Check.same("20: the escort is taken", x.why(1, 1, 4, 0, 1), 5);
        Check.same("20: the limit", x.why(1, 1, 8, 0, 1), 6);
        Check.same("20: the limit is a week's", x.why(1, 2, 8, 0, 1), 0);
        Check.same("20: the room", x.why(1, 1, 4, 1, 0), 7);
        Check.same("20: a missed meeting takes nothing", whyBehindMissed(x), 0);
        Check.refused(x, "20: order 2", INDEX, () -> x.why(2, 0, 0, 0, 0));
        Check.refused(x, "20: escort 2", INDEX, () -> x.why(0, 0, 0, 2, 0));
        Check.refused(x, "20: venue 2", INDEX, () -> x.why(0, 0, 0, 0, 2));
        Check.refused(x, "20: order -1, week and slot wrong", INDEX, () -> x.why(-1, 20, 28, 0, 0));
        Check.refused(x, "20: week 20", ARGUMENT, () -> x.why(0, 20, 0, 0, 0));
        Check.refused(x, "20: week -1", ARGUMENT, () -> x.why(0, -1, 0, 0, 0));
        Check.refused(x, "20: slot 28", ARGUMENT, () -> x.why(0, 0, 28, 0, 0));
        Check.refused(x, "20: slot -1", ARGUMENT, () -> x.why(0, 0, -1, 0, 0));
    }

    private static int whyBehindMissed(MeetingOrders x) {
        x.tell(1, false);
        return x.why(0, 1, 4, 0, 0);
    }

    /** Takes away the reasons one by one, from the first to the last. */
    private static void whyTellsTheFirstReason() {
        MeetingOrders x = Made.large();
        x.planWeek(1);
        x.allow(0, 30);
        x.setSlots(0, 0);
        x.plan(1, 2, 0, 1, 0);
        x.plan(2, 2, 0, 2, 0);
        x.plan(3, 2, 0, 3, 0);
        x.plan(4, 2, 0, 4, 0);
        Check.same("20: 60 are kept", x.value(3), 60);
        Check.same("20: the venue first", x.why(0, 2, 0, 0, 0), 2);
        x.allow(0, 31);
        Check.same("20: the slot before the room", x.why(0, 2, 0, 0, 0), 4);
        x.setSlots(0, Made.ALL);
        Check.same("20: the room before the 60", x.why(0, 2, 0, 0, 0), 7);
        Check.same("20: the 60 last", x.why(0, 2, 0, 0, 1), 8);
        Check.same("20: the escort before the room", x.why(0, 2, 0, 1, 0), 5);
        Check.same("20: the day before the escort", x.why(1, 2, 0, 1, 0), 3);
        x.setSlots(1, 0);
        Check.same("20: the slot before the escort is taken", x.why(0, 2, 0, 1, 0), 4);
        Check.same("20: the day before the slot", x.why(1, 2, 1, 1, 0), 3);
        x.endWeek();
        x.allow(1, 0);
        Check.same("20: the week before all", x.why(1, 0, 0, 1, 0), 1);
        Check.same("20: the venue before the day", x.why(1, 2, 0, 1, 0), 2);

        MeetingOrders y = new MeetingOrders();
        y.addVenue(1);
        y.addEscort(Made.ALL, 1);
        y.addOrder(1, 1);
        y.addOrder(1, 1);
        y.plan(0, 0, 0, 0, 0);
        Check.same("20: the slot of the escort before the limit", y.why(1, 0, 0, 0, 0), 5);
        y.addEscort(Made.ALL, 1);
        y.plan(1, 0, 4, 1, 0);
        Check.same("20: the limit before the room", y.why(1, 0, 0, 1, 0), 6);
    }

    // Promise 21
    private static void firstSlot() {
        MeetingOrders x = new MeetingOrders();
        x.addVenue(1);
        x.addVenue(1);
        x.addEscort(0b1010_0000_0100_0000_0001_1000, 3);
        x.addOrder(0, 1);
        x.addOrder(0, 2);
        x.addOrder(0, 0);
        Check.same("21: the first slot, though nothing is owed", x.firstSlot(0, 0), 3);
        x.plan(0, 0, 3, 0, 0);
        Check.same("21: besides its own meetings", x.firstSlot(0, 0), 4);
        Check.same("21: besides the meetings of others", x.firstSlot(1, 0), 4);
        Check.same("21: another week", x.firstSlot(0, 1), 3);
        Check.same("21: no venue", x.firstSlot(2, 0), -1);
        x.plan(0, 0, 4, 0, 0);
        Check.same("21: another day", x.firstSlot(0, 0), 14);
        x.plan(0, 0, 14, 0, 0);
        Check.same("21: the limit", x.firstSlot(1, 0), -1);
        x.addEscort(1 << 27, 1);
        Check.same("21: the last slot", x.firstSlot(1, 0), 27);
        x.endWeek();
        Check.same("21: a past week", x.firstSlot(0, 0), -1);
        Check.refused(x, "21: week 20", ARGUMENT, () -> x.firstSlot(0, 20));
        Check.refused(x, "21: week -1", ARGUMENT, () -> x.firstSlot(0, -1));
        Check.refused(x, "21: order 3", INDEX, () -> x.firstSlot(3, 0));
        Check.refused(x, "21: order -1 and week 20", INDEX, () -> x.firstSlot(-1, 20));
        MeetingOrders y = Made.large();
        y.planWeek(1);
        y.plan(0, 0, 0, 0, 0);
        y.plan(1, 0, 0, 1, 0);
        y.plan(2, 0, 0, 2, 0);
        Check.same("21: 59 are kept", y.firstSlot(3, 0), 0);
        y.plan(3, 0, 0, 3, 0);
        Check.same("21: 60 are kept", y.firstSlot(4, 0), -1);
    }

    // Promise 22
    private static void owedBehind() {
        MeetingOrders x = new MeetingOrders();
        x.addVenue(1);
        x.addEscort(0b11, 20);
        x.addOrder(2, 1);
        x.addOrder(2, 1);
        x.addOrder(1, 0);
        long before = x.digest();
        Check.same("22: two of five", x.owedBehind(0), 3);
        Check.same("22: nothing changes", x.digest(), before);
        Check.same("22: a later week", x.owedBehind(1), 8);
        x.planWeek(0);
        Check.same("22: planned already", x.owedBehind(0), 3);
        x.endWeek();
        Check.refused(x, "22: a past week", STATE, () -> x.owedBehind(0));
        Check.refused(x, "22: week 20", ARGUMENT, () -> x.owedBehind(20));
        Check.refused(x, "22: week -1", ARGUMENT, () -> x.owedBehind(-1));
        MeetingOrders y = Made.large();
        y.planWeek(0);
        Check.same("22: 60 are kept", y.owedBehind(1), 52);
    }

    // Promise 23
    private static void settledIn() {
        MeetingOrders x = new MeetingOrders();
        x.addVenue(1);
        x.addEscort(0b1111, 20);
        x.addOrder(3, 1);
        Check.same("23: never", x.settledIn(), -1);
        x.change(0, 4, 0);
        long before = x.digest();
        Check.same("23: one a week, twelve are due", x.settledIn(), 11);
        Check.same("23: nothing changes", x.digest(), before);
        x.setSlots(0, 0b10001);
        Check.same("23: two a week, twelve are due", x.settledIn(), 5);
        x.change(0, 4, 1);
        Check.same("23: two a week, twelve and one a week are due", x.settledIn(), 7);
        x.change(0, 0, 0);
        Check.same("23: the present week", x.settledIn(), 0);
        x.change(0, 19, 2);
        Made.atWeek(x, 19);
        Check.same("23: the last week is looked at", x.settledIn(), 19);
        x.plan(0, 19, 0, 0, 0);
        Check.same("23: with meetings that are planned", x.settledIn(), 19);
        x.tell(0, false);
        x.setSlots(0, 1);
        Check.same("23: the last week is not enough", x.settledIn(), -1);
        MeetingOrders y = new MeetingOrders();
        y.addVenue(1);
        y.addEscort(1, 20);
        y.addOrder(2, 1);
        y.change(0, 1, 0);
        y.addEscort(1 << 4, 20);
        y.plan(0, 3, 4, 1, 0);
        y.setSlots(1, 0);
        Check.same("23: a meeting of a later week counts when it is its turn", y.settledIn(), 1);
    }

    private static void settledInDropsMeetings() {
        MeetingOrders x = Made.large();
        x.planWeek(0);
        x.planWeek(1);
        for (int order = 0; order < 8; order++) {
            x.change(order, 1, 0);
        }
        x.endWeek();
        // 60 are kept until the week 5 begins; then 4 of the week 1 are left, and 56 can be planned in one week.
        Check.same("23: it waits until meetings are not kept any more", x.settledIn(), 5);
        x.change(7, 1, 1);
        Check.same("23: 4 were served in the week 1 and 4 more in the week 6", x.settledIn(), 6);
    }

    // Promise 24
    private static void gainBy() {
        MeetingOrders x = new MeetingOrders();
        x.addVenue(1);
        x.addEscort(Made.ALL, 2);
        x.addEscort(1, 1);
        x.addEscort(Made.ALL, 20);
        x.setSlots(2, 0);
        x.addOrder(5, 1);
        long before = x.digest();
        Check.same("24: the limit stands in the way", x.gainBy(0, 0), 3);
        Check.same("24: it does not", x.gainBy(1, 0), 0);
        Check.same("24: limit 20 already", x.gainBy(2, 0), 0);
        Check.same("24: a later week", x.gainBy(0, 1), 7 - 2);
        Check.same("24: nothing changes", x.digest(), before);
        x.endWeek();
        Check.refused(x, "24: a past week", STATE, () -> x.gainBy(0, 0));
        Check.refused(x, "24: week 20", ARGUMENT, () -> x.gainBy(0, 20));
        Check.refused(x, "24: week -1", ARGUMENT, () -> x.gainBy(0, -1));
        Check.refused(x, "24: escort 3", INDEX, () -> x.gainBy(3, 1));
        Check.refused(x, "24: escort -1 and week 20", INDEX, () -> x.gainBy(-1, 20));
        Check.refused(x, "24: escort 3 and a past week", INDEX, () -> x.gainBy(3, 0));
    }

    // Promise 25
    private static void kept() {
        MeetingOrders x = Made.small();
        x.planWeek(2);
        Check.same("25: none told", x.kept(), 1.0);
        Made.atWeek(x, 2);
        x.tell(0, false);
        Check.same("25: none held", x.kept(), 0.0);
        x.tell(1, true);
        x.tell(2, true);
        Check.same("25: two of three", x.kept(), 2.0 / 3.0);
        x.endWeek();
        Check.same("25: those that the end of the week missed count", x.kept(), 2.0 / 6.0);
        Made.atWeek(x, 10);
        Check.same("25: those that are not kept any more count", x.kept(), 2.0 / 6.0);
    }

    // Promise 26
    private static void append() {
        MeetingOrders x = new MeetingOrders();
        Check.refused(x, "26: byte -1", ARGUMENT, () -> x.append(-1));
        Check.refused(x, "26: byte 128", ARGUMENT, () -> x.append(128));
        Check.same("26: byte 0", x.append(0), 1);
        Check.same("26: byte 127", x.append(127), 2);
        Check.refused(x, "26: no saved state", STATE, x::undo);
        for (int i = 3; i <= 100; i++) {
            Check.same("26: the length", x.append(i), i);
        }
        Check.refused(x, "26: the byte 101", STATE, () -> x.append(1));
        Check.refused(x, "26: the byte 101, wrong too", ARGUMENT, () -> x.append(128));
        Check.same("26: the length stays", x.clearText(), 100);
    }

    // Promise 27
    private static void clearText() {
        MeetingOrders x = new MeetingOrders();
        Made.write(x, "w;w;");
        Check.same("27: the length", x.clearText(), 4);
        Check.same("27: it is empty", x.clearText(), 0);
        Check.same("27: no order is left", x.carryOut(), 0);
        Check.same("27: it starts anew", x.append('w'), 1);
        x.undo();
        Check.same("27: undo() leaves the text", x.clearText(), 1);
    }

    // Promise 28
    private static void carryOut() {
        MeetingOrders x = Made.small();
        Made.write(x, "c03:4;p03;h0;w;p19;h08;");
        Check.same("28: all but the last", x.carryOut(), 2);
        Check.same("28: the hours", x.hours(0, 3), 4);
        Check.same("28: the week 3 is planned", x.value(3), 7);
        Check.same("28: the present week is not ended", x.value(4), 0);
        x.undo();
        Check.same("28: one saved state", x.hours(0, 3), 2);
        Check.same("28: the text stays", x.clearText(), 23);
        Made.write(x, "p0;m00;h1;w;c01:7;c001:6;p1;w;");
        Check.same("28: all", x.carryOut(), 8);
        Check.same("28: missed", x.meeting(0, 5), 2);
        Check.same("28: held", x.meeting(1, 5), 1);
        Check.same("28: zeros in front", x.hours(0, 1), 6);
        Check.same("28: two weeks are over", x.value(4), 2);
        Check.same("28: what was planned is missed", x.meeting(2, 5), 2);
        Check.same("28: undo() takes all back", x.undo(), 3);
        Check.same("28: the week", x.value(4), 0);
        Check.same("28: the meetings", x.value(5), 0);
        MeetingOrders y = new MeetingOrders();
        Made.write(y, "");
        Check.same("28: no orders", y.carryOut(), 0);
        Check.same("28: saved all the same", y.undo(), 0);
        Made.write(y, "w;".repeat(19) + "p19;".repeat(15));
        Check.same("28: many orders", y.carryOut(), 34);
        MeetingOrders z = Made.large();
        Made.write(z, "c719:0;w;w;");
        Check.same("28: the highest order", z.carryOut(), 3);
        Check.same("28: its hours", z.hours(7, 19), 0);
        Made.write(z, "w;");
        Check.same("28: nothing of an earlier text is carried out", z.carryOut(), 1);
        Check.same("28: one week more", z.value(4), 3);
        Made.write(z, "w");
        Check.same("28: nothing of an earlier text is read", z.carryOut(), -11);
    }

    private static void carryOutStops() {
        Consumer<String> stops = text -> {
            MeetingOrders x = Made.atWeek(Made.small(), 1);
            x.planWeek(1);
            x.plan(0, 2, 0, 0, 0);
            Made.write(x, "c019:1;" + text + "c019:7;");
            Check.same("28: one before " + text, x.carryOut(), 1);
            Check.same("28: the one before " + text, x.hours(0, 19), 1);
            Check.same("28: saved states behind " + text, x.undo(), 3);
        };
        stops.accept("c105:1;");
        stops.accept("c00:1;");
        stops.accept("p0;");
        stops.accept("h99;");
        stops.accept("m5;");
        stops.accept("h4;");
        stops.accept("m4;");
        MeetingOrders x = Made.atWeek(Made.small(), 18);
        Made.write(x, "w;w;w;");
        Check.same("28: the last week cannot be ended", x.carryOut(), 1);
        Check.same("28: the last week", x.value(4), 19);
        Made.write(x, "p18;");
        Check.same("28: none, a past week", x.carryOut(), 0);
        Check.same("28: saved even so", x.undo(), 3);
        MeetingOrders y = Made.atWeek(Made.small(), 19);
        Made.write(y, "p19;h0;h0;");
        Check.same("28: held twice", y.carryOut(), 2);
        Check.same("28: held once", y.value(6), 1);
    }

    private static void syntaxErrors() {
        String[] texts = {"c", "1", "c8", "1", "c0", "2", "c0x", "2", "c0:", "2", "c012", "4", "c0123", "4", "c02:", "4",
            "c020", "2", "c020:", "2", "c020x", "2", "c099;", "2", "c0200", "4", "c02;", "3", "c02:8", "4", "c02:x", "4",
            "c02:7", "5", "c02:70", "5", "c02:7x", "5", "p", "1", "p;", "1", "p1", "2", "p19", "3", "p20", "1", "p20;", "1",
            "p20 ", "1", "p200", "3", "p019;", "3", "p1:", "2", "h", "1", "h;", "1", "h99", "3", "h999", "3", "h9x", "2",
            "m", "1", "m100;", "3", "w", "1", "w1", "1", "ww", "1", ";", "0", " w;", "0", "w; ", "2", "W;", "0", "w;;", "2",
            "w;c", "3", "w;p20;w;", "3", "x", "0", "c-1", "1", "p+1", "1", "c 0", "1", "c00 :1;", "3"};
        for (int i = 0; i < texts.length; i += 2) {
            MeetingOrders x = Made.small();
            Made.write(x, texts[i]);
            long before = x.digest();
            Check.same("28: the error of " + texts[i], x.carryOut(), -10 - Integer.parseInt(texts[i + 1]));
            Check.same("28: nothing changes by " + texts[i], x.digest(), before);
        }
        MeetingOrders x = Made.small();
        Made.write(x, "w;".repeat(49) + "p1");
        Check.same("28: the error at the end of a full text", x.carryOut(), -110);
        Made.write(x, "w;".repeat(50));
        Check.same("28: fifty orders", x.carryOut(), 19);
    }

    // Promise 29
    private static void undo() {
        MeetingOrders x = new MeetingOrders();
        long[] digests = new long[7];
        for (int i = 0; i < 6; i++) {
            digests[i] = shape(x);
            x.addEscort(i, i + 1);
        }
        for (int left = 3; left >= 0; left--) {
            Check.same("29: saved states that remain", x.undo(), left);
            Check.same("29: the state before", shape(x), digests[2 + left]);
        }
        Check.refused(x, "29: the oldest were dropped", STATE, x::undo);
        Check.same("29: what is left", x.value(1), 2);
        MeetingOrders y = Made.small();
        y.planWeek(0);
        y.tell(0, true);
        y.append('w');
        y.endWeek();
        Check.same("29: a state", y.undo(), 3);
        Check.same("29: the present week", y.value(4), 0);
        Check.same("29: held stays", y.meeting(0, 5), 1);
        Check.same("29: planned again", y.meeting(1, 5), 0);
        Check.same("29: the text is no part of it", y.clearText(), 1);
        y.undo();
        Check.same("29: planned again, too", y.meeting(0, 5), 0);
        Check.same("29: not held by the escort", y.escort(0, 3), 0);
        y.undo();
        Check.same("29: the next number goes back", y.value(9), 0);
        Check.same("29: and goes on from there", y.planWeek(0), 2);
        Check.same("29: one more saved", y.undo(), 1);
        y.planWeek(0);
        y.tell(1, false);
        y.undo();
        Check.same("29: not missed", y.order(0, 3), 0);
        MeetingOrders z = new MeetingOrders();
        z.planWeek(0);
        Check.same("29: a call that changes nothing saves, too", z.undo(), 0);
    }

    /** What can be seen of the escorts, without the saved states. */
    private static long shape(MeetingOrders x) {
        long shape = x.value(1);
        for (int i = 0; i < x.value(1); i++) {
            shape = 1000 * shape + 10 * x.escort(i, 0) + x.escort(i, 1);
        }
        return shape;
    }

    /** A call saves a state if it is undoable, even if it changes nothing, and no other call does. */
    private static void undoables() {
        saves("addOrder", 1, x -> x.addOrder(0, 0));
        saves("change", 1, x -> x.change(0, 0, 2));
        saves("allow", 1, x -> x.allow(0, 1));
        saves("addEscort", 1, x -> x.addEscort(0, 1));
        saves("setSlots", 1, x -> x.setSlots(0, Made.ALL));
        saves("addVenue", 1, x -> x.addVenue(1));
        saves("plan", 1, x -> x.plan(0, 0, 4, 0, 0));
        saves("planWeek", 1, x -> x.planWeek(5));
        saves("cancel", 1, x -> x.cancel(0));
        saves("tell", 1, x -> x.tell(0, true));
        saves("endWeek", 1, x -> x.endWeek());
        saves("carryOut", 1, x -> x.carryOut());
        saves("order", 0, x -> x.order(0, 0));
        saves("hours", 0, x -> x.hours(0, 0));
        saves("owed", 0, x -> x.owed(0, 0));
        saves("meeting", 0, x -> x.meeting(0, 0));
        saves("escort", 0, x -> x.escort(0, 0));
        saves("freeRooms", 0, x -> x.freeRooms(0, 0, 0));
        saves("value", 0, x -> x.value(0));
        saves("why", 0, x -> x.why(0, 0, 0, 0, 0));
        saves("firstSlot", 0, x -> x.firstSlot(0, 0));
        saves("owedBehind", 0, x -> x.owedBehind(0));
        saves("settledIn", 0, x -> x.settledIn());
        saves("gainBy", 0, x -> x.gainBy(0, 0));
        saves("kept", 0, x -> x.kept());
        saves("append", 0, x -> x.append(0));
        saves("clearText", 0, x -> x.clearText());
        saves("digest", 0, x -> x.digest());
    }

    private static void saves(String name, int due, Consumer<MeetingOrders> call) {
        MeetingOrders x = Made.small();
        x.plan(0, 0, 0, 0, 0);
        x.endWeek();
        x.undo();
        int before = savedStates(x, () -> 0);
        Check.same("29: saved by " + name, savedStates(x, () -> {
            call.accept(x);
            return 0;
        }) - before, due);
    }

    /** The digest ends with their number, which settledIn() comes before, so that it can be told from the rest. */
    private static int savedStates(MeetingOrders x, LongSupplier call) {
        call.getAsLong();
        long digest = x.digest();
        long without = digestWithout(() -> x);
        return (int) (digest - 31 * without);
    }

    // Promise 30
    private static void digest() {
        MeetingOrders x = new MeetingOrders();
        long empty = 3739;
        for (int i = 0; i < 13; i++) {
            empty *= 31;
        }
        Check.same("30: a new object", x.digest(), empty);
        x.append(5);
        long one = 3739 * 31 + 1;
        for (int i = 0; i < 12; i++) {
            one *= 31;
        }
        Check.same("30: the text counts by its length", x.digest(), one);
        digestIs("30: a large one", PromisesTest::largeAndTold, 4);
        digestIs("30: the saved states count", () -> {
            MeetingOrders y = largeAndTold();
            y.undo();
            return y;
        }, 3);
        digestIs("30: settledIn() is NONE", () -> {
            MeetingOrders y = new MeetingOrders();
            y.addVenue(1);
            y.addOrder(7, 0);
            return y;
        }, 2);
    }

    private static MeetingOrders largeAndTold() {
        MeetingOrders x = Made.large();
        x.planWeek(3);
        x.plan(1, 0, 13, 4, 2);
        x.plan(1, 0, 17, 4, 2);
        x.change(3, 7, 2);
        x.allow(2, 5);
        x.setSlots(1, 77);
        x.cancel(7);
        x.tell(56, true);
        x.tell(57, false);
        x.append('w');
        x.append(';');
        x.append('w');
        return x;
    }

    private static void digestIs(String what, Supplier<MeetingOrders> make, int saved) {
        Check.same(what, make.get().digest(), 31 * digestWithout(make) + saved);
    }

    /**
     * The digest by the calls of the face, before the last value goes in. Each part asks an object of its own, since one
     * object is promised to answer 512 calls.
     */
    private static long digestWithout(Supplier<MeetingOrders> make) {
        long h = digestOfNumbers(31 * 3739L, make.get());
        h = digestOfOrders(h, make.get());
        MeetingOrders x = make.get();
        int next = x.value(9);
        for (int number = 0; number < next; number++) {
            h = digestOfMeeting(h, x, number);
        }
        return 31 * h + x.settledIn();
    }

    private static long digestOfNumbers(long start, MeetingOrders x) {
        int length = x.clearText();
        for (int i = 0; i < length; i++) {
            x.append('w');
        }
        long h = start + length;
        for (int what = 0; what <= 9; what++) {
            h = 31 * h + x.value(what);
        }
        return h;
    }

    private static long digestOfOrders(long start, MeetingOrders x) {
        long h = start;
        int orders = x.value(0);
        for (int i = 0; i < orders; i++) {
            for (int what = 0; what <= 6; what++) {
                h = 31 * h + x.order(i, what);
            }
            for (int week = 0; week <= 19; week++) {
                h = 31 * h + x.hours(i, week);
            }
        }
        int escorts = x.value(1);
        for (int i = 0; i < escorts; i++) {
            for (int what = 0; what <= 3; what++) {
                h = 31 * h + x.escort(i, what);
            }
        }
        int venues = x.value(2);
        for (int i = 0; i < venues; i++) {
            h = 31 * h + x.freeRooms(i, 19, 27);
        }
        return h;
    }

    private static long digestOfMeeting(long start, MeetingOrders x, int number) {
        long h = 31 * start + number;
        try {
            for (int what = 0; what <= 5; what++) {
                h = 31 * h + x.meeting(number, what);
            }
        } catch (IndexOutOfBoundsException e) {
            return start;
        }
        return h;
    }
}

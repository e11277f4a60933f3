import java.util.function.IntFunction;

/** The sentences of "## Terms" that tell when a meeting can be planned, and what planning a week means. */
final class EdgesOfPlanning {
    private static final int WEEK = 3;

    private EdgesOfPlanning() {
    }

    static void run() {
        Sentences.section("Terms");
        Sentences.says("A meeting can be planned for the present week or a later one", EdgesOfPlanning::notThePast);
        Sentences.says("if the order allows the venue", EdgesOfPlanning::allowedVenue);
        Sentences.says("the order has no other meeting on the same day of this week that is planned or held",
                EdgesOfPlanning::otherOnTheDay);
        Sentences.says("the escort has the slot", EdgesOfPlanning::slotOfEscort);
        Sentences.says("has no other meeting in this slot of this week that is planned or held",
                EdgesOfPlanning::otherInTheSlot);
        Sentences.says("and fewer meetings in this week that are planned or held than the limit",
                EdgesOfPlanning::fewerThanTheLimit);
        Sentences.says("and fewer meetings are planned or held at the venue in this slot of this week than it has rooms",
                EdgesOfPlanning::fewerThanRooms);
        Sentences.says("again and again", EdgesOfPlanning::againAndAgain);
        Sentences.says("the order with the most hours that are owed in this week is looked at",
                EdgesOfPlanning::mostHours);
        Sentences.says("of several the one with the lowest number", EdgesOfPlanning::lowestOrder);
        Sentences.says("as long as there is one with more than 0", EdgesOfPlanning::moreThanNothing);
        Sentences.says("for which a meeting can be planned in this week", EdgesOfPlanning::inThisWeek);
        Sentences.says("orders for which none can be planned are passed over", EdgesOfPlanning::passedOver);
        Sentences.says("The meeting that is planned for it is the one in the lowest slot", EdgesOfPlanning::lowestSlot);
        Sentences.says("of several with the escort who has the fewest meetings in this week that are planned or held",
                EdgesOfPlanning::fewestMeetings);
        Sentences.says("of several the lowest escort", EdgesOfPlanning::lowestEscort);
        Sentences.says("of several at the lowest venue", EdgesOfPlanning::lowestVenue);
    }

    private static void meetingIs(String when, MeetingOrders x, int number, int order, int slot, int escort, int venue) {
        Check.same(when + ": order of " + number, x.meeting(number, 0), order);
        Check.same(when + ": slot of " + number, x.meeting(number, 2), slot);
        Check.same(when + ": escort of " + number, x.meeting(number, 3), escort);
        Check.same(when + ": venue of " + number, x.meeting(number, 4), venue);
    }

    private static void notThePast() {
        for (int present = 0; present < 20; present++) {
            int now = present;
            MeetingOrders x = Made.atWeek(Made.small(), now);
            for (int week = 0; week < 20; week++) {
                Check.same("week " + week + " at " + now, x.why(0, week, 0, 0, 0), week < now ? 1 : 0);
                Check.same("week " + week + " at " + now, x.firstSlot(0, week), week < now ? -1 : 0);
            }
            Check.same("the present week " + now, x.plan(0, now, 0, 0, 0), 0);
            Check.same("the last week at " + now, x.plan(0, 19, 4, 0, 0), 1);
        }
        Twins.refused("the week before the present one", Twins.STATE, () -> Made.atWeek(Made.small(), 5),
                x -> x.plan(0, 4, 0, 0, 0));
        Twins.refused("the first week", Twins.STATE, () -> Made.atWeek(Made.small(), 5), x -> x.plan(0, 0, 0, 0, 0));
    }

    private static void allowedVenue() {
        IntFunction<MeetingOrders> allowing = set -> {
            MeetingOrders x = Made.roomy(1, 1);
            x.allow(0, set);
            return x;
        };
        Check.same("none", allowing.apply(0).why(0, 0, 0, 0, 0), 2);
        Check.same("none, no slot", allowing.apply(0).firstSlot(0, 0), -1);
        Check.same("none, planWeek()", allowing.apply(0).planWeek(0), 0);
        Check.same("the lowest", allowing.apply(1).why(0, 0, 0, 0, 0), 0);
        Check.same("the highest", allowing.apply(16).why(0, 0, 0, 0, 4), 0);
        Check.same("all but the highest", allowing.apply(15).why(0, 0, 0, 0, 4), 2);
        Check.same("all but the lowest", allowing.apply(30).why(0, 0, 0, 0, 0), 2);
        Twins.refused("all but the lowest", Twins.STATE, () -> allowing.apply(30), x -> x.plan(0, 0, 0, 0, 0));
    }

    /**
     * The meeting 0 of the week 3 is planned, held, missed, or cancelled (0 to 3): the first two stand in the way of
     * the next one by this reason, the other two do not.
     */
    private static void standsInTheWay(IntFunction<MeetingOrders> make, int reason, int order, int slot, int escort) {
        String[] names = {"planned", "held", "missed", "cancelled"};
        for (int status = 0; status < 4; status++) {
            int state = status;
            boolean free = status > 1;
            MeetingOrders x = make.apply(status);
            Check.same("why() beside " + names[status], x.why(order, WEEK, slot, escort, 0), free ? 0 : reason);
            Check.same("firstSlot() beside " + names[status], x.firstSlot(order, WEEK), free ? slot : -1);
            Check.same("another week beside " + names[status], x.why(order, WEEK + 1, slot, escort, 0), 0);
            if (free) {
                Check.same("plan() beside " + names[status], x.plan(order, WEEK, slot, escort, 0), 1);
            } else {
                Twins.refused("plan() beside " + names[status], Twins.STATE, () -> make.apply(state),
                        y -> y.plan(order, WEEK, slot, escort, 0));
            }
            MeetingOrders y = make.apply(status);
            y.change(order, WEEK, 7);
            Check.same("planWeek() beside " + names[status], y.planWeek(WEEK), free ? 1 : 0);
        }
    }

    /** The meeting 0 is of the order 0 with the escort 0, in the slot 4. */
    private static MeetingOrders beside(int status, int slots, int limit, int rooms) {
        MeetingOrders x = new MeetingOrders();
        x.addVenue(rooms);
        x.addEscort(slots, limit);
        x.addEscort(0, 20);
        x.addOrder(0, 1);
        x.addOrder(0, 1);
        Made.atWeek(x, WEEK);
        x.plan(0, WEEK, 4, 0, 0);
        if (status == 3) {
            x.cancel(0);
        } else if (status != 0) {
            x.tell(0, status == 1);
        }
        return x;
    }

    private static void otherOnTheDay() {
        for (int slot : new int[] {5, 7}) {
            standsInTheWay(status -> {
                MeetingOrders x = beside(status, 1 << 4, 20, 4);
                x.setSlots(0, 1 << slot);
                return x;
            }, 3, 0, slot, 0);
        }
        MeetingOrders x = beside(0, Made.ALL, 20, 4);
        Check.same("the last slot of the day before", x.why(0, WEEK, 3, 0, 0), 0);
        Check.same("the first slot of the next day", x.why(0, WEEK, 8, 0, 0), 0);
        Check.same("another order", x.why(1, WEEK, 5, 0, 0), 0);
    }

    private static void slotOfEscort() {
        MeetingOrders x = Made.small();
        x.setSlots(0, 0);
        Check.same("no slots", x.why(0, 0, 0, 0, 0), 4);
        Check.same("no slots, firstSlot()", x.firstSlot(0, 0), -1);
        x.setSlots(0, 1 | 1 << 27);
        Check.same("the first slot", x.why(0, 0, 0, 0, 0), 0);
        Check.same("the last slot", x.why(0, 0, 27, 0, 0), 0);
        Check.same("the second slot", x.why(0, 0, 1, 0, 0), 4);
        Check.same("the last slot but one", x.why(0, 0, 26, 0, 0), 4);
        Twins.refused("a slot of another escort", Twins.STATE, () -> {
            MeetingOrders y = Made.small();
            y.addEscort(Made.ALL - 1, 20);
            return y;
        }, y -> y.plan(0, 0, 0, 1, 0));
    }

    private static void otherInTheSlot() {
        standsInTheWay(status -> beside(status, 1 << 4, 20, 4), 5, 1, 4, 0);
        MeetingOrders x = beside(0, Made.ALL, 20, 4);
        Check.same("the slot before", x.why(1, WEEK, 3, 0, 0), 0);
        Check.same("the slot behind", x.why(1, WEEK, 5, 0, 0), 0);
        x.setSlots(1, Made.ALL);
        Check.same("another escort", x.why(1, WEEK, 4, 1, 0), 0);
        x.addVenue(4);
        x.allow(1, 2);
        Check.same("at another venue", x.why(1, WEEK, 4, 0, 1), 5);
    }

    private static void fewerThanTheLimit() {
        standsInTheWay(status -> {
            MeetingOrders x = beside(status, 1 << 4, 1, 4);
            x.setSlots(0, 1 << 20);
            return x;
        }, 6, 1, 20, 0);
        MeetingOrders x = beside(0, Made.ALL, 2, 4);
        x.plan(1, WEEK + 1, 0, 0, 0);
        x.plan(1, WEEK + 1, 4, 0, 0);
        Check.same("one of two, and two in the next week", x.why(1, WEEK, 0, 0, 0), 0);
        x.plan(1, WEEK, 0, 0, 0);
        Check.same("two of two", x.why(1, WEEK, 8, 0, 0), 6);
        x.setSlots(1, Made.ALL);
        Check.same("another escort", x.why(1, WEEK, 8, 1, 0), 0);
    }

    private static void fewerThanRooms() {
        standsInTheWay(status -> {
            MeetingOrders x = beside(status, 1 << 4, 20, 1);
            x.setSlots(0, 0);
            x.setSlots(1, 1 << 4);
            return x;
        }, 7, 1, 4, 1);
        MeetingOrders x = beside(0, Made.ALL, 20, 1);
        x.setSlots(1, Made.ALL);
        Check.same("the slot before", x.why(1, WEEK, 3, 1, 0), 0);
        Check.same("the slot behind", x.why(1, WEEK, 5, 1, 0), 0);
        x.addVenue(1);
        x.allow(1, 2);
        Check.same("another venue", x.why(1, WEEK, 4, 1, 1), 0);
    }

    private static void againAndAgain() {
        Check.same("nothing at all", new MeetingOrders().planWeek(0), 0);
        Check.same("none is owed", Made.roomy(8, 0).planWeek(19), 0);
        Check.same("one for each", Made.roomy(8, 1).planWeek(0), 8);
        Check.same("a day for each order and day", Made.roomy(8, 7).planWeek(0), 56);
        MeetingOrders x = Made.small();
        x.planWeek(0);
        Check.same("nothing is left", x.planWeek(0), 0);
    }

    /** One slot a week, so that one order alone is served. */
    private static MeetingOrders oneSlot(int... hours) {
        MeetingOrders x = new MeetingOrders();
        x.addVenue(1);
        x.addEscort(1, 20);
        for (int h : hours) {
            x.addOrder(h, 1);
        }
        return x;
    }

    private static void servedIs(String what, MeetingOrders x, int week, int order) {
        Check.same(what + ": planned", x.planWeek(week), 1);
        Check.same(what + ": the order that is served", x.meeting(x.value(9) - 1, 0), order);
    }

    private static void mostHours() {
        servedIs("the last has the most", oneSlot(1, 2, 3, 4, 5, 6, 7, 7 - 1), 0, 6);
        servedIs("the first has the most", oneSlot(2, 1, 1), 0, 0);
        servedIs("one more", oneSlot(6, 7, 6), 0, 1);
        MeetingOrders x = oneSlot(3, 2);
        x.change(0, 4, 0);
        x.change(1, 4, 4);
        servedIs("owed in the week 5", x, 5, 1);
        servedIs("owed in the week 4", x, 4, 0);
        MeetingOrders y = oneSlot(2, 1);
        servedIs("two and one", y, 0, 0);
        y.tell(0, true);
        y.setSlots(0, 1 << 4);
        servedIs("one and one", y, 0, 0);
        MeetingOrders z = oneSlot(1, 1);
        z.plan(0, 7, 0, 0, 0);
        servedIs("planned for a later week", z, 0, 0);
        MeetingOrders past = oneSlot(0, 7);
        past.change(1, 1, 0);
        past.change(0, 1, 6);
        past.endWeek();
        servedIs("what past weeks owe counts", past, 1, 1);
    }

    private static void lowestOrder() {
        servedIs("eight alike", oneSlot(3, 3, 3, 3, 3, 3, 3, 3), 0, 0);
        servedIs("the last two alike", oneSlot(1, 1, 1, 1, 1, 1, 3, 3), 0, 6);
        MeetingOrders x = oneSlot(2, 2);
        x.setSlots(0, Made.ALL);
        Check.same("two and two", x.planWeek(0), 4);
        meetingIs("first", x, 0, 0, 0, 0, 0);
        meetingIs("then the other, who is owed more now", x, 1, 1, 1, 0, 0);
        meetingIs("alike again", x, 2, 0, 4, 0, 0);
        meetingIs("the last one", x, 3, 1, 5, 0, 0);
    }

    private static void moreThanNothing() {
        Check.same("0 hours", oneSlot(0).planWeek(0), 0);
        Check.same("1 hour", oneSlot(1).planWeek(0), 1);
        MeetingOrders x = oneSlot(1);
        x.setSlots(0, Made.ALL);
        x.plan(0, 0, 8, 0, 0);
        Check.same("1 hour, planned already", x.planWeek(0), 0);
        x.plan(0, 0, 4, 0, 0);
        Check.same("less than nothing", x.planWeek(0), 0);
        Check.same("less than nothing, a week later", x.planWeek(1), 0);
        Check.same("something in the next", x.planWeek(2), 1);
    }

    private static void inThisWeek() {
        MeetingOrders x = oneSlot(7);
        Check.same("the week 2 alone is planned", x.planWeek(2), 1);
        Check.same("its week", x.meeting(0, 1), 2);
        Check.same("the week 2 is full", x.planWeek(2), 0);
        Check.same("the week 1 is not", x.planWeek(1), 1);
        Check.same("its week", x.meeting(1, 1), 1);
        Check.same("what is left", x.owed(0, 2), 19);
    }

    private static void passedOver() {
        MeetingOrders x = oneSlot(7, 7, 1, 0);
        x.allow(0, 0);
        x.allow(1, 0);
        servedIs("the first two allow no venue", x, 0, 2);
        MeetingOrders y = oneSlot(7, 1);
        y.setSlots(0, 3);
        Check.same("the day of the first is taken then", y.planWeek(0), 2);
        meetingIs("the first", y, 0, 0, 0, 0, 0);
        meetingIs("the one that is not passed over", y, 1, 1, 1, 0, 0);
        MeetingOrders z = oneSlot(7, 7);
        z.allow(0, 0);
        z.allow(1, 0);
        Check.same("all are passed over", z.planWeek(0), 0);
    }

    private static void lowestSlot() {
        MeetingOrders x = Made.roomy(1, 1);
        x.planWeek(0);
        meetingIs("the first slot", x, 0, 0, 0, 0, 0);
        for (int escort = 0; escort < 6; escort++) {
            x.setSlots(escort, 1 << 27 - escort);
        }
        x.planWeek(1);
        meetingIs("a lower slot before a lower escort", x, 1, 0, 22, 5, 0);
        MeetingOrders y = new MeetingOrders();
        y.addVenue(1);
        y.addVenue(1);
        y.addEscort(6, 20);
        y.addEscort(6, 20);
        y.addOrder(0, 3);
        y.addOrder(1, 3);
        y.plan(0, 0, 1, 0, 0);
        y.planWeek(0);
        meetingIs("a lower slot before a lower venue", y, 1, 1, 1, 1, 1);
        MeetingOrders z = oneSlot(1, 1);
        z.setSlots(0, 1 << 27);
        servedIs("the last slot", z, 0, 0);
    }

    /** Two escorts and two orders; the first escort has meetings of the first order, the second order is planned. */
    private static MeetingOrders twoEscorts() {
        MeetingOrders x = Made.small();
        x.change(0, 0, 0);
        x.addEscort(Made.ALL, 20);
        x.addOrder(1, 1);
        x.endWeek();
        x.change(1, 1, 0);
        return x;
    }

    private static int escortOfNext(MeetingOrders x) {
        x.planWeek(1);
        return x.meeting(x.value(9) - 1, 3);
    }

    private static void fewestMeetings() {
        MeetingOrders x = twoEscorts();
        x.plan(0, 1, 4, 0, 0);
        Check.same("one planned and none", escortOfNext(x), 1);
        x = twoEscorts();
        x.plan(0, 1, 4, 0, 0);
        x.tell(0, true);
        Check.same("one held and none", escortOfNext(x), 1);
        x = twoEscorts();
        x.plan(0, 1, 4, 0, 0);
        x.tell(0, false);
        Check.same("one missed and none", escortOfNext(x), 0);
        x = twoEscorts();
        x.plan(0, 2, 4, 0, 0);
        Check.same("one of another week and none", escortOfNext(x), 0);
        x = twoEscorts();
        x.plan(0, 1, 4, 0, 0);
        x.cancel(0);
        Check.same("one cancelled and none", escortOfNext(x), 0);
        x = twoEscorts();
        x.plan(0, 1, 4, 0, 0);
        x.plan(0, 1, 8, 0, 0);
        x.plan(0, 1, 12, 1, 0);
        Check.same("two and one", escortOfNext(x), 1);
        fewestByFar();
    }

    private static void fewestByFar() {
        MeetingOrders x = new MeetingOrders();
        x.addVenue(4);
        x.addEscort(Made.ALL, 20);
        for (int i = 0; i < 4; i++) {
            x.addOrder(0, 1);
        }
        x.addOrder(1, 1);
        for (int i = 0; i < 19; i++) {
            x.plan(i % 4, 0, 27 - i, 0, 0);
        }
        Check.same("the escort with 19 of 20", x.planWeek(0), 1);
        Check.same("has 20 then", x.escort(0, 2), 20);
        x.addEscort(Made.ALL, 1);
        x.addOrder(1, 1);
        Check.same("none and 20", x.planWeek(0), 1);
        Check.same("the escort with none", x.meeting(20, 3), 1);
    }

    private static void lowestEscort() {
        MeetingOrders x = Made.roomy(7, 1);
        Check.same("a round of the escorts and one more", x.planWeek(0), 7);
        meetingIs("the first four meet in the slot 0", x, 0, 0, 0, 0, 0);
        meetingIs("the first four meet in the slot 0", x, 3, 3, 0, 3, 0);
        meetingIs("at the second venue", x, 4, 4, 0, 4, 1);
        meetingIs("the last escort", x, 5, 5, 0, 5, 1);
        meetingIs("again the lowest escort, in the next slot", x, 6, 6, 1, 0, 0);
    }

    private static void lowestVenue() {
        MeetingOrders x = Made.roomy(8, 1);
        x.allow(0, 24);
        x.allow(1, 16);
        x.allow(2, 31);
        Check.same("planned", x.planWeek(0), 8);
        meetingIs("the fourth before the fifth", x, 0, 0, 0, 0, 3);
        meetingIs("the fifth alone", x, 1, 1, 0, 1, 4);
        meetingIs("the first of all", x, 2, 2, 0, 2, 0);
        MeetingOrders last = new MeetingOrders();
        for (int i = 0; i < 5; i++) {
            last.addVenue(1);
        }
        last.addEscort(1, 1);
        last.addOrder(1, 16);
        Check.same("one order, one escort, five venues", last.planWeek(0), 1);
        meetingIs("the last venue", last, 0, 0, 0, 0, 4);
        MeetingOrders full = withFullVenue();
        Check.same("planned", full.planWeek(0), 1);
        meetingIs("the first is full", full, 1, 1, 0, 1, 1);
    }

    private static MeetingOrders withFullVenue() {
        MeetingOrders x = new MeetingOrders();
        x.addVenue(1);
        x.addVenue(1);
        x.addEscort(Made.ALL, 20);
        x.addEscort(Made.ALL, 20);
        x.addOrder(0, 3);
        x.addOrder(1, 3);
        x.plan(0, 0, 0, 0, 0);
        return x;
    }
}

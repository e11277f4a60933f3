import java.util.function.Supplier;

/** Promises 1 to 12: the calls that furnish, plan and end weeks. */
final class EdgesOfCalls {
    private static final Class<?> INDEX = Twins.INDEX;
    private static final Class<?> ARGUMENT = Twins.ARGUMENT;
    private static final Class<?> STATE = Twins.STATE;
    private static final Supplier<MeetingOrders> BUSY = Made::busy;

    private EdgesOfCalls() {
    }

    static void run() {
        newObject();
        addOrder();
        change();
        allow();
        addEscort();
        setSlots();
        addVenue();
        plan();
        planWeek();
        cancel();
        tell();
        endWeek();
    }

    private static void newObject() {
        Sentences.section("Promise 1");
        Sentences.says("Creates a calendar without orders, escorts, venues and meetings, at the week 0.", () -> {
            MeetingOrders x = new MeetingOrders();
            for (int what = 0; what <= 9; what++) {
                Check.same("value(" + what + ")", x.value(what), 0);
            }
            Check.same("kept()", x.kept(), 1.0);
            Check.same("settledIn()", x.settledIn(), 0);
            Check.same("clearText()", x.clearText(), 0);
            Check.same("planWeek()", x.planWeek(19), 0);
            Twins.refused("order", INDEX, MeetingOrders::new, y -> y.order(0, 0));
            Twins.refused("escort", INDEX, MeetingOrders::new, y -> y.escort(0, 0));
            Twins.refused("venue", INDEX, MeetingOrders::new, y -> y.freeRooms(0, 0, 0));
            Twins.refused("meeting", INDEX, MeetingOrders::new, y -> y.meeting(0, 0));
            Twins.refused("undo", STATE, MeetingOrders::new, y -> y.undo());
            MeetingOrders spoilt = Made.busy();
            Check.same("objects share nothing", new MeetingOrders().value(9) + 7, spoilt.value(9));
        });
    }

    private static void addOrder() {
        Sentences.section("Promise 2");
        Sentences.says("Adds an order with the same hours for all weeks from the present one on, "
                + "and 0 for the weeks before.", () -> {
            for (int present : new int[] {0, 1, 7, 18, 19}) {
                MeetingOrders x = Made.atWeek(new MeetingOrders(), present);
                x.addOrder(7, 0);
                for (int week = 0; week < 20; week++) {
                    Check.same("week " + week + " at " + present, x.hours(0, week), week < present ? 0 : 7);
                }
            }
        });
        Sentences.says("Undoable.", () -> Twins.undoable(BUSY, x -> x.addOrder(7, 3)));
        Sentences.says("`hours`: 0 to 7", () -> Twins.range("hours", BUSY, 0, 7, ARGUMENT, (x, n) -> x.addOrder(n, 0)));
        Sentences.says("`venues`: a set of venues", () -> {
            for (int set = 0; set < 32; set++) {
                MeetingOrders x = Made.roomy(0, 0);
                x.addOrder(1, set);
                Check.same("the set", x.order(0, 1), set);
            }
        });
        Sentences.says("Returns its number.", () -> {
            MeetingOrders x = new MeetingOrders();
            for (int number = 0; number < 8; number++) {
                Check.same("the number", x.addOrder(0, 0), number);
                Check.same("the orders", x.value(0), number + 1);
            }
        });
        Sentences.says("Throws `IllegalArgumentException` if hours is out of range, or venues is negative "
                + "or has a venue that there is not", () -> {
            Twins.range("no venues", MeetingOrders::new, 0, 0, ARGUMENT, (x, set) -> x.addOrder(0, set));
            Twins.range("two venues", BUSY, 0, 3, ARGUMENT, (x, set) -> x.addOrder(0, set));
            Twins.range("five venues", () -> Made.roomy(0, 0), 0, 31, ARGUMENT, (x, set) -> x.addOrder(0, set));
            Twins.refused("one that there is, one that there is not", ARGUMENT, BUSY, x -> x.addOrder(0, 5));
            Twins.refused("the bit 30", ARGUMENT, BUSY, x -> x.addOrder(0, 1 << 30));
            Twins.refused("the bits 0 and 31", ARGUMENT, BUSY, x -> x.addOrder(0, 1 << 31 | 1));
            Twins.refused("hours and 8 orders", ARGUMENT, Made::large, x -> x.addOrder(8, 0));
            Twins.refused("venues and 8 orders", ARGUMENT, Made::large, x -> x.addOrder(0, 32));
        });
        Sentences.says("Throws `IllegalStateException` if there are 8 orders", () -> {
            Check.same("7 orders", Made.roomy(7, 7).addOrder(7, 31), 7);
            Twins.refused("8 orders", STATE, Made::large, x -> x.addOrder(7, 31));
            Twins.refused("8 orders", STATE, Made::large, x -> x.addOrder(0, 0));
            MeetingOrders x = Made.large();
            x.undo();
            Check.same("7 orders by undo()", x.addOrder(1, 1), 7);
        });
    }

    private static void change() {
        Sentences.section("Promise 3");
        Sentences.says("Changes the hours of an order for a week and all later ones.", () -> {
            for (int from : new int[] {0, 1, 9, 18, 19}) {
                MeetingOrders x = Made.roomy(3, 2);
                x.change(1, from, 7);
                for (int week = 0; week < 20; week++) {
                    Check.same("week " + week + " from " + from, x.hours(1, week), week < from ? 2 : 7);
                    Check.same("the order before", x.hours(0, week), 2);
                    Check.same("the order behind", x.hours(2, week), 2);
                }
            }
        });
        Sentences.says("Undoable.", () -> Twins.undoable(BUSY, x -> x.change(1, 2, 7)));
        Sentences.says("`order`: number of an order",
                () -> Twins.range("order", BUSY, 0, 1, INDEX, (x, n) -> x.change(n, 2, 7)));
        Sentences.says("`week`: the present week to 19", () -> {
            for (int present : new int[] {0, 1, 5, 19}) {
                Twins.range("week", () -> Made.atWeek(Made.small(), present), present, 19, ARGUMENT,
                        (x, week) -> x.change(0, week, 7));
            }
        });
        Sentences.says("`hours`: 0 to 7", () -> Twins.range("hours", BUSY, 0, 7, ARGUMENT, (x, n) -> x.change(0, 2, n)));
        Sentences.says("Returns the hours that it had for this week.", () -> {
            MeetingOrders x = Made.small();
            Check.same("from the start", x.change(0, 9, 7), 2);
            Check.same("of this week, not of the present one", x.change(0, 9, 0), 7);
            Check.same("of the week before", x.change(0, 8, 1), 2);
            Check.same("of the last week", x.change(0, 19, 5), 1);
        });
        Sentences.says("Throws `IndexOutOfBoundsException` if there is no such order", () -> {
            Twins.refused("none at all", INDEX, MeetingOrders::new, x -> x.change(0, 0, 0));
            Twins.refused("the order 8", INDEX, Made::large, x -> x.change(8, 0, 0));
            Twins.refused("the order -1", INDEX, Made::large, x -> x.change(-1, 0, 0));
            Twins.refused("order, week and hours", INDEX, BUSY, x -> x.change(2, 20, 8));
        });
        Sentences.says("Throws `IllegalArgumentException` if week or hours is out of range", () -> {
            Twins.refused("the week before the present one", ARGUMENT, BUSY, x -> x.change(0, 1, 5));
            Twins.refused("the week 20", ARGUMENT, BUSY, x -> x.change(0, 20, 5));
            Twins.refused("hours -1", ARGUMENT, BUSY, x -> x.change(0, 2, -1));
            Twins.refused("hours 8", ARGUMENT, BUSY, x -> x.change(0, 2, 8));
            Twins.refused("both", ARGUMENT, BUSY, x -> x.change(0, 1, 8));
        });
    }

    private static void allow() {
        Sentences.section("Promise 4");
        Sentences.says("Changes the venues that an order allows; meetings stay.", () -> {
            MeetingOrders x = Made.roomy(3, 1);
            x.planWeek(0);
            x.allow(1, 0);
            Check.same("meetings", x.value(3), 3);
            Check.same("the meeting at a venue that is not allowed any more", x.meeting(1, 4), 0);
            Check.same("it is planned still", x.meeting(1, 5), 0);
            Check.same("it can be held", x.tell(1, true), 0);
            Check.same("no other can be planned", x.firstSlot(1, 1), -1);
            Check.same("the order before", x.order(0, 1), 31);
            Check.same("the order behind", x.order(2, 1), 31);
        });
        Sentences.says("Undoable.", () -> Twins.undoable(BUSY, x -> x.allow(1, 0)));
        Sentences.says("`order`: number of an order",
                () -> Twins.range("order", BUSY, 0, 1, INDEX, (x, n) -> x.allow(n, 0)));
        Sentences.says("`venues`: a set of venues", () -> {
            for (int set = 0; set < 32; set++) {
                MeetingOrders x = Made.roomy(1, 0);
                x.allow(0, set);
                Check.same("the set", x.order(0, 1), set);
            }
        });
        Sentences.says("Returns the set before.", () -> {
            MeetingOrders x = Made.roomy(1, 0);
            Check.same("all", x.allow(0, 0), 31);
            Check.same("none", x.allow(0, 16), 0);
            Check.same("one", x.allow(0, 16), 16);
        });
        Sentences.says("Throws `IndexOutOfBoundsException` if there is no such order", () -> {
            Twins.refused("none at all", INDEX, MeetingOrders::new, x -> x.allow(0, 0));
            Twins.refused("the order 8", INDEX, Made::large, x -> x.allow(8, 0));
            Twins.refused("order and venues", INDEX, BUSY, x -> x.allow(2, -1));
        });
        Sentences.says("Throws `IllegalArgumentException` if venues is negative or has a venue that there is not", () -> {
            MeetingOrders none = new MeetingOrders();
            none.addOrder(1, 0);
            Check.same("none of none", none.allow(0, 0), 0);
            Twins.range("two venues", BUSY, 0, 3, ARGUMENT, (x, set) -> x.allow(0, set));
            Twins.range("five venues", Made::large, 0, 31, ARGUMENT, (x, set) -> x.allow(7, set));
            Twins.refused("one that there is, one that there is not", ARGUMENT, BUSY, x -> x.allow(0, 5));
            Twins.refused("the bits 0 and 31", ARGUMENT, BUSY, x -> x.allow(0, 1 << 31 | 1));
        });
    }

    private static void addEscort() {
        Sentences.section("Promise 5");
        Sentences.says("Adds an escort.", () -> {
            MeetingOrders x = new MeetingOrders();
            x.addEscort(0, 1);
            x.addEscort(Made.ALL, 20);
            int[] due = {0, 1, 0, 0, Made.ALL, 20, 0, 0};
            for (int i = 0; i < 8; i++) {
                Check.same("escort(" + i / 4 + ", " + i % 4 + ")", x.escort(i / 4, i % 4), due[i]);
            }
        });
        Sentences.says("Undoable.", () -> Twins.undoable(BUSY, x -> x.addEscort(5, 5)));
        Sentences.says("`slots`: a set of slots, 0 to 268435455",
                () -> Twins.range("slots", BUSY, 0, 268435455, ARGUMENT, (x, set) -> x.addEscort(set, 1)));
        Sentences.says("`limit`: 1 to 20",
                () -> Twins.range("limit", BUSY, 1, 20, ARGUMENT, (x, limit) -> x.addEscort(0, limit)));
        Sentences.says("Returns the number of the escort.", () -> {
            MeetingOrders x = new MeetingOrders();
            for (int number = 0; number < 6; number++) {
                Check.same("the number", x.addEscort(0, 1), number);
                Check.same("the escorts", x.value(1), number + 1);
            }
        });
        Sentences.says("Throws `IllegalArgumentException` if an argument is out of range", () -> {
            Twins.refused("slots -1", ARGUMENT, BUSY, x -> x.addEscort(-1, 1));
            Twins.refused("slots 2^28", ARGUMENT, BUSY, x -> x.addEscort(268435456, 1));
            Twins.refused("limit 0", ARGUMENT, BUSY, x -> x.addEscort(0, 0));
            Twins.refused("limit 21", ARGUMENT, BUSY, x -> x.addEscort(0, 21));
            Twins.refused("slots and 6 escorts", ARGUMENT, Made::large, x -> x.addEscort(268435456, 1));
            Twins.refused("limit and 6 escorts", ARGUMENT, Made::large, x -> x.addEscort(0, 0));
        });
        Sentences.says("Throws `IllegalStateException` if there are 6 escorts", () -> {
            MeetingOrders x = Made.roomy(0, 0);
            x.undo();
            Check.same("5 escorts", x.addEscort(0, 1), 5);
            Twins.refused("6 escorts", STATE, Made::large, y -> y.addEscort(0, 1));
        });
    }

    private static void setSlots() {
        Sentences.section("Promise 6");
        Sentences.says("Changes the slots of an escort; meetings stay.", () -> {
            MeetingOrders x = Made.roomy(3, 1);
            x.planWeek(0);
            x.setSlots(1, 0);
            Check.same("meetings", x.value(3), 3);
            Check.same("the meeting in a slot that the escort has no more", x.meeting(1, 2), 0);
            Check.same("it is planned still", x.meeting(1, 5), 0);
            Check.same("it counts for the escort", x.escort(1, 2), 1);
            Check.same("it can be held", x.tell(1, true), 0);
            Check.same("no other can be planned", x.why(0, 1, 0, 1, 0), 4);
            Check.same("the escort before", x.escort(0, 0), Made.ALL);
            Check.same("the escort behind", x.escort(2, 0), Made.ALL);
            Check.same("the limit stays", x.escort(1, 1), 20);
        });
        Sentences.says("Undoable.", () -> Twins.undoable(BUSY, x -> x.setSlots(1, 5)));
        Sentences.says("`escort`: number of an escort",
                () -> Twins.range("escort", BUSY, 0, 1, INDEX, (x, n) -> x.setSlots(n, 5)));
        Sentences.says("`slots`: a set of slots",
                () -> Twins.range("slots", BUSY, 0, 268435455, ARGUMENT, (x, set) -> x.setSlots(0, set)));
        Sentences.says("Returns the set before.", () -> {
            MeetingOrders x = Made.small();
            Check.same("all", x.setSlots(0, 0), Made.ALL);
            Check.same("none", x.setSlots(0, 1 << 27), 0);
            Check.same("the last", x.setSlots(0, 1), 1 << 27);
            Check.same("the first", x.setSlots(0, 1), 1);
        });
        Sentences.says("Throws `IndexOutOfBoundsException` if there is no such escort", () -> {
            Twins.refused("none at all", INDEX, MeetingOrders::new, x -> x.setSlots(0, 0));
            Twins.refused("the escort 6", INDEX, Made::large, x -> x.setSlots(6, 0));
            Twins.refused("escort and slots", INDEX, BUSY, x -> x.setSlots(2, -1));
        });
        Sentences.says("Throws `IllegalArgumentException` if slots is out of range", () -> {
            Twins.refused("-1", ARGUMENT, BUSY, x -> x.setSlots(1, -1));
            Twins.refused("2^28", ARGUMENT, BUSY, x -> x.setSlots(1, 268435456));
            Twins.refused("2^28 and 1", ARGUMENT, BUSY, x -> x.setSlots(1, 268435457));
        });
    }

    private static void addVenue() {
        Sentences.section("Promise 7");
        Sentences.says("Adds a venue.", () -> {
            for (int rooms = 1; rooms <= 4; rooms++) {
                MeetingOrders x = Made.small();
                x.addVenue(rooms);
                Check.same("its rooms, first slot", x.freeRooms(1, 0, 0), rooms);
                Check.same("its rooms, last slot", x.freeRooms(1, 19, 27), rooms);
                Check.same("the rooms of the venue before", x.freeRooms(0, 0, 0), 2);
                Check.same("orders do not allow it by themselves", x.why(0, 0, 0, 0, 1), 2);
            }
        });
        Sentences.says("Undoable.", () -> Twins.undoable(BUSY, x -> x.addVenue(4)));
        Sentences.says("`rooms`: 1 to 4", () -> Twins.range("rooms", BUSY, 1, 4, ARGUMENT, (x, n) -> x.addVenue(n)));
        Sentences.says("Returns the number of the venue.", () -> {
            MeetingOrders x = new MeetingOrders();
            for (int number = 0; number < 5; number++) {
                Check.same("the number", x.addVenue(1), number);
                Check.same("the venues", x.value(2), number + 1);
            }
        });
        Sentences.says("Throws `IllegalArgumentException` if rooms is out of range", () -> {
            Twins.refused("0", ARGUMENT, BUSY, x -> x.addVenue(0));
            Twins.refused("5", ARGUMENT, BUSY, x -> x.addVenue(5));
            Twins.refused("0 and 5 venues", ARGUMENT, Made::large, x -> x.addVenue(0));
            Twins.refused("5 and 5 venues", ARGUMENT, Made::large, x -> x.addVenue(5));
        });
        Sentences.says("Throws `IllegalStateException` if there are 5 venues", () -> {
            MeetingOrders x = new MeetingOrders();
            for (int i = 0; i < 4; i++) {
                x.addVenue(1);
            }
            Check.same("4 venues", x.addVenue(4), 4);
            Twins.refused("5 venues", STATE, Made::large, y -> y.addVenue(1));
        });
    }

    private static void plan() {
        Sentences.section("Promise 8");
        Sentences.says("Plans a meeting.", () -> {
            MeetingOrders x = Made.large();
            x.plan(7, 19, 27, 5, 4);
            int[] due = {7, 19, 27, 5, 4, 0};
            for (int what = 0; what < 6; what++) {
                Check.same("meeting(0, " + what + ")", x.meeting(0, what), due[what]);
            }
            MeetingOrders y = Made.small();
            y.change(0, 0, 0);
            Check.same("whether hours are owed or not", y.plan(0, 0, 0, 0, 0), 0);
        });
        Sentences.says("Undoable.", () -> Twins.undoable(BUSY, x -> x.plan(0, 4, 16, 0, 0)));
        Sentences.says("`order`: number of an order",
                () -> Twins.range("order", BUSY, 0, 1, INDEX, (x, n) -> x.plan(n, 3, 0, 0, 0)));
        Sentences.says("`week`: 0 to 19", () -> {
            Twins.range("week", Made::small, 0, 19, ARGUMENT, (x, week) -> x.plan(0, week, 0, 0, 0));
            Twins.refused("-1 is out of range before it is past", ARGUMENT, BUSY, x -> x.plan(0, -1, 0, 0, 0));
        });
        Sentences.says("`slot`: 0 to 27",
                () -> Twins.range("slot", BUSY, 0, 27, ARGUMENT, (x, slot) -> x.plan(0, 3, slot, 0, 0)));
        Sentences.says("`escort`: number of an escort",
                () -> Twins.range("escort", BUSY, 0, 1, INDEX, (x, n) -> x.plan(0, 3, 0, n, 0)));
        Sentences.says("`venue`: number of a venue",
                () -> Twins.range("venue", BUSY, 0, 1, INDEX, (x, n) -> x.plan(1, 3, 0, 0, n)));
        Sentences.says("Returns the number of the meeting.", () -> {
            Check.same("the first", Made.small().plan(0, 0, 0, 0, 0), 0);
            Check.same("behind others, one of them cancelled", Made.busy().plan(0, 3, 0, 0, 0), 7);
        });
        Sentences.says("Throws `IndexOutOfBoundsException` if there is no such order, escort or venue", () -> {
            Twins.refused("the order", INDEX, BUSY, x -> x.plan(2, 3, 0, 0, 0));
            Twins.refused("the escort", INDEX, BUSY, x -> x.plan(0, 3, 0, 2, 0));
            Twins.refused("the venue", INDEX, BUSY, x -> x.plan(0, 3, 0, 0, 2));
            Twins.refused("the venue, and the week and slot", INDEX, BUSY, x -> x.plan(0, 20, 28, 0, 2));
            Twins.refused("the escort, and a past week", INDEX, BUSY, x -> x.plan(0, 1, 0, -1, 0));
            Twins.refused("the order, and 60 are kept", INDEX, () -> Made.keeping(60), x -> x.plan(8, 3, 0, 0, 0));
        });
        Sentences.says("Throws `IllegalArgumentException` if week or slot is out of range", () -> {
            Twins.refused("the week, and the day is taken", ARGUMENT, BUSY, x -> x.plan(0, 20, 1, 0, 0));
            Twins.refused("the slot, and a past week", ARGUMENT, BUSY, x -> x.plan(0, 1, 28, 0, 0));
            Twins.refused("the slot, and 60 are kept", ARGUMENT, () -> Made.keeping(60), x -> x.plan(0, 3, -1, 0, 0));
        });
        Sentences.says("Throws `IllegalStateException` if the week is before the present one, "
                + "the meeting cannot be planned, or 60 meetings are kept", EdgesOfCalls::planRefused);
    }

    private static void planRefused() {
        Twins.refused("the week before the present one", STATE, BUSY, x -> x.plan(0, 1, 0, 0, 0));
        Check.same("the present week", Made.busy().plan(0, 2, 16, 0, 0), 7);
        Twins.refused("the venue", STATE, BUSY, x -> x.plan(0, 3, 0, 0, 1));
        Twins.refused("the day", STATE, BUSY, x -> x.plan(0, 2, 2, 0, 0));
        Twins.refused("the slot of the escort", STATE, BUSY, x -> x.plan(0, 3, 1, 1, 0));
        Twins.refused("the escort's other meeting", STATE, BUSY, x -> x.plan(1, 2, 7, 1, 1));
        Twins.refused("the limit", STATE, () -> {
            MeetingOrders x = Made.busy();
            x.plan(1, 2, 12, 0, 0);
            x.plan(1, 2, 16, 0, 0);
            return x;
        }, x -> x.plan(1, 2, 20, 0, 0));
        Twins.refused("the room", STATE, BUSY, x -> x.plan(1, 2, 7, 0, 0));
        Check.same("59 are kept", Made.keeping(59).plan(7, 3, 0, 0, 0), 59);
        Twins.refused("60 are kept", STATE, () -> Made.keeping(60), x -> x.plan(7, 3, 0, 0, 0));
    }

    private static void planWeek() {
        Sentences.section("Promise 9");
        Sentences.says("Plans a week; it ends when 60 meetings are kept, too.", () -> {
            int[] kept = {0, 1, 3, 4, 5, 52, 59, 60};
            int[] planned = {56, 56, 56, 56, 55, 8, 1, 0};
            for (int i = 0; i < kept.length; i++) {
                MeetingOrders x = Made.keeping(kept[i]);
                Check.same(kept[i] + " are kept", x.planWeek(9), planned[i]);
                Check.same(kept[i] + " were kept", x.value(3), kept[i] + planned[i]);
            }
            MeetingOrders x = Made.keeping(60);
            x.cancel(30);
            x.cancel(31);
            Check.same("two were cancelled", x.planWeek(9), 2);
            Check.same("60 are kept again", x.value(3), 60);
        });
        Sentences.says("Undoable.", () -> {
            Twins.undoable(BUSY, x -> x.planWeek(3));
            Twins.undoable(() -> Made.keeping(60), x -> x.planWeek(3));
        });
        Sentences.says("`week`: 0 to 19",
                () -> Twins.range("week", Made::small, 0, 19, ARGUMENT, (x, week) -> x.planWeek(week)));
        Sentences.says("Returns the meetings that were planned.", () -> {
            Check.same("none", new MeetingOrders().planWeek(0), 0);
            Check.same("one", Made.roomy(1, 1).planWeek(0), 1);
            Check.same("a day each at most", Made.roomy(1, 7).planWeek(1), 7);
            Check.same("all", Made.large().planWeek(0), 56);
            MeetingOrders x = Made.small();
            x.plan(0, 0, 0, 0, 0);
            Check.same("not those from before", x.planWeek(0), 1);
        });
        Sentences.says("Throws `IllegalArgumentException` if week is out of range", () -> {
            Twins.refused("-1", ARGUMENT, BUSY, x -> x.planWeek(-1));
            Twins.refused("20", ARGUMENT, BUSY, x -> x.planWeek(20));
        });
        Sentences.says("Throws `IllegalStateException` if the week is before the present one", () -> {
            Twins.refused("the week before", STATE, BUSY, x -> x.planWeek(1));
            Twins.refused("the first week", STATE, BUSY, x -> x.planWeek(0));
            Twins.refused("18 at 19", STATE, () -> Made.atWeek(Made.small(), 19), x -> x.planWeek(18));
            Check.same("the present week", Made.atWeek(Made.small(), 19).planWeek(19), 7);
        });
    }

    private static void cancel() {
        Sentences.section("Promise 10");
        Sentences.says("Cancels a planned meeting: it is not kept any more.", () -> {
            for (int number = 0; number < 3; number++) {
                MeetingOrders x = Made.small();
                for (int i = 0; i < 3; i++) {
                    x.plan(0, i, 4 * i, 0, 0);
                }
                x.cancel(number);
                int cancelled = number;
                Check.same("kept", x.value(3), 2);
                Check.throwsJust("the cancelled one", INDEX, () -> x.meeting(cancelled, 0));
                for (int other = 0; other < 3; other++) {
                    if (other != number) {
                        Check.same("the week of another", x.meeting(other, 1), other);
                        Check.same("the slot of another", x.meeting(other, 2), 4 * other);
                    }
                }
                Check.same("planned for the order", x.order(0, 4), 2);
                Check.same("planned so far", x.value(5), 3);
            }
        });
        Sentences.says("Undoable.", () -> Twins.undoable(BUSY, x -> x.cancel(6)));
        Sentences.says("`meeting`: number of a meeting", () -> {
            Check.same("of the present week", Made.busy().cancel(4), 2);
            Twins.refused("-1", INDEX, BUSY, x -> x.cancel(-1));
            Twins.refused("the next number", INDEX, BUSY, x -> x.cancel(7));
            Twins.refused("the greatest int", INDEX, BUSY, x -> x.cancel(Integer.MAX_VALUE));
            Twins.refused("the least int", INDEX, BUSY, x -> x.cancel(Integer.MIN_VALUE));
        });
        Sentences.says("Returns its week.", () -> {
            for (int week = 0; week < 20; week++) {
                MeetingOrders x = Made.small();
                x.plan(0, week, 0, 0, 0);
                Check.same("the week", x.cancel(0), week);
            }
        });
        Sentences.says("Throws `IndexOutOfBoundsException` if no such meeting is kept", () -> {
            Twins.refused("none at all", INDEX, MeetingOrders::new, x -> x.cancel(0));
            Twins.refused("a cancelled one", INDEX, BUSY, x -> x.cancel(3));
            Twins.refused("a missed one that is not kept any more", INDEX, () -> Made.atWeek(Made.busy(), 5),
                    x -> x.cancel(0));
        });
        Sentences.says("Throws `IllegalStateException` if it is not planned", () -> {
            Twins.refused("a missed one of a past week", STATE, BUSY, x -> x.cancel(0));
            Twins.refused("a held one", STATE, BUSY, x -> x.cancel(1));
            Twins.refused("a missed one", STATE, BUSY, x -> x.cancel(2));
            Twins.refused("a missed one that is kept still", STATE, () -> Made.atWeek(Made.busy(), 4), x -> x.cancel(0));
        });
    }

    private static void tell() {
        Sentences.section("Promise 11");
        Sentences.says("Tells that a meeting of the present week was held or missed.", () -> {
            MeetingOrders x = Made.busy();
            x.tell(4, true);
            x.tell(5, false);
            int[] due = {2, 1, 2, -1, 1, 2, 0};
            for (int number : new int[] {0, 1, 2, 4, 5, 6}) {
                Check.same("meeting " + number, x.meeting(number, 5), due[number]);
            }
            Check.same("held so far", x.value(6), 2);
            Check.same("missed so far", x.value(7), 3);
        });
        Sentences.says("Undoable.", () -> {
            Twins.undoable(BUSY, x -> x.tell(4, true));
            Twins.undoable(BUSY, x -> x.tell(4, false));
        });
        Sentences.says("`meeting`: number of a meeting", () -> {
            Twins.refused("-1", INDEX, BUSY, x -> x.tell(-1, true));
            Twins.refused("the next number", INDEX, BUSY, x -> x.tell(7, true));
            Twins.refused("the greatest int", INDEX, BUSY, x -> x.tell(Integer.MAX_VALUE, false));
            Twins.refused("the least int", INDEX, BUSY, x -> x.tell(Integer.MIN_VALUE, false));
        });
        Sentences.says("`held`: whether it was held", () -> {
            MeetingOrders x = Made.busy();
            x.tell(4, true);
            Check.same("true", x.meeting(4, 5), 1);
            x.undo();
            x.tell(4, false);
            Check.same("false", x.meeting(4, 5), 2);
        });
        Sentences.says("Returns the hours that are owed by its order in the present week then.", () -> {
            MeetingOrders x = Made.small();
            for (int day = 0; day < 4; day++) {
                x.plan(0, 0, 4 * day, 0, 0);
            }
            Check.same("four for two, one missed", x.tell(0, false), 0);
            Check.same("two missed", x.tell(1, false), 0);
            Check.same("three missed", x.tell(2, false), 1);
            Check.same("and one held", x.tell(3, true), 1);
            MeetingOrders y = Made.roomy(6, 0);
            for (int order = 0; order < 6; order++) {
                y.change(order, 1, order);
            }
            y.endWeek();
            y.plan(5, 1, 2, 3, 4);
            y.plan(4, 1, 3, 5, 2);
            y.plan(3, 2, 0, 0, 0);
            Check.same("of its own order, missed", y.tell(0, false), 5);
            Check.same("of its own order, held", y.tell(1, true), 3);
            y.endWeek();
            Check.same("of the present week", y.tell(2, false), 6);
        });
        Sentences.says("Throws `IndexOutOfBoundsException` if no such meeting is kept", () -> {
            Twins.refused("none at all", INDEX, MeetingOrders::new, x -> x.tell(0, true));
            Twins.refused("a cancelled one", INDEX, BUSY, x -> x.tell(3, true));
            Twins.refused("one that is not kept any more", INDEX, () -> Made.atWeek(Made.busy(), 5),
                    x -> x.tell(0, true));
        });
        Sentences.says("Throws `IllegalStateException` if it is not planned, or not in the present week", () -> {
            for (boolean held : new boolean[] {true, false}) {
                Twins.refused("a missed one of a past week", STATE, BUSY, x -> x.tell(0, held));
                Twins.refused("a held one", STATE, BUSY, x -> x.tell(1, held));
                Twins.refused("a missed one", STATE, BUSY, x -> x.tell(2, held));
                Twins.refused("one of a later week", STATE, BUSY, x -> x.tell(6, held));
            }
            Check.same("when its week is the present one", Made.atWeek(Made.busy(), 5).tell(6, true), 16);
        });
    }

    private static void endWeek() {
        Sentences.section("Promise 12");
        Sentences.says("Ends the present week.", () -> {
            MeetingOrders x = new MeetingOrders();
            for (int week = 0; week < 19; week++) {
                Check.same("the present week", x.value(4), week);
                x.endWeek();
            }
            Check.same("the last week", x.value(4), 19);
        });
        Sentences.says("Meetings of weeks that are then more than 4 weeks before the present one are not kept any more",
                EdgesOfCalls::fourWeeks);
        Sentences.says("they still count for what is owed, and wherever something is told \"so far\"",
                EdgesOfCalls::stillCount);
        Sentences.says("Undoable.", () -> {
            Twins.undoable(BUSY, x -> x.endWeek());
            Twins.undoable(() -> Made.atWeek(Made.busy(), 4), x -> x.endWeek());
            Twins.undoable(() -> Made.atWeek(Made.busy(), 18), x -> x.endWeek());
        });
        Sentences.says("Returns the meetings that are missed by it.", () -> {
            Check.same("none", new MeetingOrders().endWeek(), 0);
            Check.same("two that are planned, beside a held and a missed one", Made.busy().endWeek(), 2);
            MeetingOrders x = Made.large();
            x.planWeek(0);
            x.planWeek(1);
            Check.same("all of this week, none of the next", x.endWeek(), 56);
            Check.same("those of the next then", x.endWeek(), 4);
            Check.same("none then", x.endWeek(), 0);
        });
        Sentences.says("Throws `IllegalStateException` if the present week is 19", () -> {
            Check.same("18", Made.atWeek(Made.busy(), 18).endWeek(), 0);
            Twins.refused("19", STATE, () -> Made.atWeek(Made.busy(), 19), x -> x.endWeek());
            Twins.refused("19, with a meeting", STATE, () -> {
                MeetingOrders x = Made.atWeek(Made.small(), 19);
                x.plan(0, 19, 0, 0, 0);
                return x;
            }, x -> x.endWeek());
        });
    }

    /** A held one, a missed one and one that nothing is told of, in each of the weeks 0 to 2. */
    private static MeetingOrders threeAWeek() {
        MeetingOrders x = Made.small();
        for (int week = 0; week < 3; week++) {
            for (int day = 0; day < 3; day++) {
                x.plan(0, week, 4 * day, 0, 0);
            }
            x.tell(3 * week, true);
            x.tell(3 * week + 1, false);
            x.endWeek();
        }
        return x;
    }

    private static void fourWeeks() {
        MeetingOrders x = threeAWeek();
        int[] kept = {9, 9, 6, 3, 0, 0};
        for (int present = 3; present < 9; present++) {
            Made.atWeek(x, present);
            Check.same("kept in the week " + present, x.value(3), kept[present - 3]);
            for (int number = 0; number < 9; number++) {
                int meeting = number;
                if (present - number / 3 > 4) {
                    Check.throwsJust("meeting " + number + " in " + present, INDEX, () -> x.meeting(meeting, 1));
                } else {
                    Check.same("meeting " + number + " in " + present, x.meeting(number, 1), number / 3);
                }
            }
            Check.same("rooms of the week 0 in " + present, x.freeRooms(0, 0, 0), present > 4 ? 2 : 1);
        }
    }

    private static void stillCount() {
        MeetingOrders x = Made.atWeek(threeAWeek(), 19);
        Check.same("kept", x.value(3), 0);
        Check.same("owed in 19", x.owed(0, 19), 37);
        Check.same("owed in 0", x.owed(0, 0), 0);
        Check.same("owed by all", x.value(8), 37);
        Check.same("owed by the order", x.order(0, 5), 37);
        Check.same("held so far, of the order", x.order(0, 2), 3);
        Check.same("missed so far, of the order", x.order(0, 3), 6);
        Check.same("planned now, of the order", x.order(0, 4), 0);
        Check.same("held so far, with the escort", x.escort(0, 3), 3);
        Check.same("planned so far", x.value(5), 9);
        Check.same("held so far", x.value(6), 3);
        Check.same("missed so far", x.value(7), 6);
        Check.same("the next number", x.value(9), 9);
        Check.same("kept()", x.kept(), 3.0 / 9.0);
        Check.same("and a new one", x.plan(0, 19, 0, 0, 0), 9);
    }
}

import java.math.BigInteger;
import java.util.Arrays;
import java.util.function.Supplier;
import java.util.stream.Stream;

/** Promises 13 to 25, and 30: the calls that ask. */
final class EdgesOfValues {
    private static final Class<?> INDEX = Twins.INDEX;
    private static final Class<?> ARGUMENT = Twins.ARGUMENT;
    private static final Class<?> STATE = Twins.STATE;
    private static final Supplier<MeetingOrders> BUSY = Made::busy;

    private EdgesOfValues() {
    }

    static void run() {
        order();
        hours();
        owed();
        meeting();
        escort();
        freeRooms();
        value();
        why();
        firstSlot();
        owedBehind();
        settledIn();
        gainBy();
        kept();
        digest();
    }

    private static void order() {
        Sentences.section("Promise 13");
        Sentences.says("Returns something about an order.", () -> Twins.tells("an answer", 3, BUSY, x -> x.order(1, 1)));
        Sentences.says("`order`: number of an order",
                () -> Twins.range("order", BUSY, 0, 1, INDEX, (x, n) -> x.order(n, 0)));
        Sentences.says("`what`: 0 its hours for the present week, 1 its venues, 2 its meetings that were held so far, "
                + "3 those that were missed so far, 4 those that are planned, 5 the hours that are owed in the present "
                + "week, 6 the sum of its hours for all weeks", () -> {
            Twins.range("what", BUSY, 0, 6, ARGUMENT, (x, what) -> x.order(0, what));
            int[] first = {2, 1, 0, 1, 2, 4, 40};
            int[] second = {3, 3, 1, 1, 1, 8, 60};
            for (int what = 0; what <= 6; what++) {
                int asked = what;
                Twins.tells("order(0, " + what + ")", first[what], BUSY, x -> x.order(0, asked));
                Twins.tells("order(1, " + what + ")", second[what], BUSY, x -> x.order(1, asked));
            }
        });
        Sentences.says("Returns that value.", EdgesOfValues::valuesOfOrders);
        Sentences.says("Throws `IndexOutOfBoundsException` if there is no such order", () -> {
            Twins.refused("none at all", INDEX, MeetingOrders::new, x -> x.order(0, 0));
            Twins.refused("the order 8", INDEX, Made::large, x -> x.order(8, 6));
            Twins.refused("order and what", INDEX, BUSY, x -> x.order(2, 7));
        });
        Sentences.says("Throws `IllegalArgumentException` if what is out of range", () -> {
            Twins.refused("-1", ARGUMENT, BUSY, x -> x.order(1, -1));
            Twins.refused("7", ARGUMENT, BUSY, x -> x.order(1, 7));
        });
    }

    private static void valuesOfOrders() {
        MeetingOrders x = Made.atWeek(Made.small(), 19);
        x.addOrder(7, 1);
        x.change(0, 19, 5);
        Check.same("hours for the last week", x.order(0, 0), 5);
        Check.same("owed in the last week", x.order(0, 5), 43);
        Check.same("the sum of past weeks and the last", x.order(0, 6), 43);
        Check.same("the sum of the last week alone", x.order(1, 6), 7);
        MeetingOrders y = Made.small();
        y.plan(0, 0, 0, 0, 0);
        y.plan(0, 19, 0, 0, 0);
        Check.same("planned for the first and the last week", y.order(0, 4), 2);
        Check.same("owed: the last week does not count yet", y.order(0, 5), 1);
        y.change(0, 0, 0);
        Check.same("no hours", y.order(0, 6), 0);
        Check.same("not less than 0", y.order(0, 5), 0);
        y.endWeek();
        Check.same("missed by the end of the week", y.order(0, 3), 1);
        Check.same("planned still", y.order(0, 4), 1);
    }

    private static void hours() {
        Sentences.section("Promise 14");
        Sentences.says("Returns the hours of an order for a week.", () -> {
            for (int order = 0; order < 2; order++) {
                for (int week = 0; week < 20; week++) {
                    int n = order;
                    int w = week;
                    Twins.tells("order " + n + ", week " + w, 2 + n, BUSY, x -> x.hours(n, w));
                }
            }
        });
        Sentences.says("`order`: number of an order",
                () -> Twins.range("order", BUSY, 0, 1, INDEX, (x, n) -> x.hours(n, 0)));
        Sentences.says("`week`: 0 to 19",
                () -> Twins.range("week", BUSY, 0, 19, ARGUMENT, (x, week) -> x.hours(0, week)));
        Sentences.says("Returns the hours.", () -> {
            MeetingOrders x = Made.large();
            x.change(7, 19, 0);
            x.change(0, 0, 1);
            Check.same("the last of the last", x.hours(7, 19), 0);
            Check.same("the one before it", x.hours(7, 18), 7);
            Check.same("the first of the first", x.hours(0, 0), 1);
            Check.same("the first of the last", x.hours(7, 0), 7);
            Check.same("the last of the first", x.hours(0, 19), 1);
            Check.same("the first of the second", x.hours(1, 0), 7);
        });
        Sentences.says("Throws `IndexOutOfBoundsException` if there is no such order", () -> {
            Twins.refused("none at all", INDEX, MeetingOrders::new, x -> x.hours(0, 0));
            Twins.refused("the order 8", INDEX, Made::large, x -> x.hours(8, 0));
            Twins.refused("order and week", INDEX, BUSY, x -> x.hours(-1, 20));
        });
        Sentences.says("Throws `IllegalArgumentException` if week is out of range", () -> {
            Twins.refused("-1", ARGUMENT, BUSY, x -> x.hours(1, -1));
            Twins.refused("20", ARGUMENT, Made::large, x -> x.hours(7, 20));
        });
    }

    private static void owed() {
        Sentences.section("Promise 15");
        Sentences.says("Returns the hours that are owed by an order in a week.", () -> {
            int[] first = {2, 4, 4, 6, 8, 10, 12};
            int[] second = {2, 5, 8, 11, 14, 16, 19};
            for (int week = 0; week < 7; week++) {
                int w = week;
                Twins.tells("order 0, week " + w, first[week], BUSY, x -> x.owed(0, w));
                Twins.tells("order 1, week " + w, second[week], BUSY, x -> x.owed(1, w));
            }
        });
        Sentences.says("`order`: number of an order",
                () -> Twins.range("order", BUSY, 0, 1, INDEX, (x, n) -> x.owed(n, 0)));
        Sentences.says("`week`: 0 to 19",
                () -> Twins.range("week", BUSY, 0, 19, ARGUMENT, (x, week) -> x.owed(0, week)));
        Sentences.says("Returns the hours.", () -> {
            MeetingOrders x = Made.large();
            Check.same("the least", x.owed(7, 0), 7);
            Check.same("the most", x.owed(7, 19), 140);
            x.change(7, 0, 0);
            Check.same("none", x.owed(7, 19), 0);
        });
        Sentences.says("Throws `IndexOutOfBoundsException` if there is no such order", () -> {
            Twins.refused("none at all", INDEX, MeetingOrders::new, x -> x.owed(0, 0));
            Twins.refused("the order 8", INDEX, Made::large, x -> x.owed(8, 0));
            Twins.refused("order and week", INDEX, BUSY, x -> x.owed(-1, 20));
        });
        Sentences.says("Throws `IllegalArgumentException` if week is out of range", () -> {
            Twins.refused("-1", ARGUMENT, BUSY, x -> x.owed(1, -1));
            Twins.refused("20", ARGUMENT, Made::large, x -> x.owed(7, 20));
        });
    }

    private static void meeting() {
        Sentences.section("Promise 16");
        Sentences.says("Returns something about a meeting.",
                () -> Twins.tells("an answer", 9, BUSY, x -> x.meeting(6, 2)));
        Sentences.says("`meeting`: its number", () -> {
            Check.same("the lowest", Made.busy().meeting(0, 1), 0);
            Check.same("the highest", Made.busy().meeting(6, 1), 5);
            Twins.refused("-1", INDEX, BUSY, x -> x.meeting(-1, 0));
            Twins.refused("the next number", INDEX, BUSY, x -> x.meeting(7, 0));
            Twins.refused("the least int", INDEX, BUSY, x -> x.meeting(Integer.MIN_VALUE, 0));
            Twins.refused("the greatest int", INDEX, BUSY, x -> x.meeting(Integer.MAX_VALUE, 0));
        });
        Sentences.says("`what`: 0 its order, 1 its week, 2 its slot, 3 its escort, 4 its venue, "
                + "5 0 planned, 1 held, 2 missed", () -> {
            Twins.range("what", BUSY, 0, 5, ARGUMENT, (x, what) -> x.meeting(4, what));
            int[][] due = {{0, 0, 0, 0, 0, 2}, {1, 2, 0, 0, 0, 1}, {1, 2, 4, 1, 1, 2}, {}, {0, 2, 1, 0, 0, 0},
                {0, 2, 7, 1, 0, 0}, {1, 5, 9, 0, 1, 0}};
            for (int number = 0; number < due.length; number++) {
                for (int what = 0; what < due[number].length; what++) {
                    int n = number;
                    int w = what;
                    Twins.tells("meeting(" + n + ", " + w + ")", due[n][w], BUSY, x -> x.meeting(n, w));
                }
            }
        });
        Sentences.says("Returns that value.", () -> {
            MeetingOrders x = Made.keeping(60);
            for (int number = 0; number < 60; number++) {
                Check.same("the order of " + number, x.meeting(number, 0), number % 56 % 8);
                Check.same("the venue of " + number, x.meeting(number, 4), number % 5);
            }
        });
        Sentences.says("Throws `IndexOutOfBoundsException` if no such meeting is kept", () -> {
            Twins.refused("none at all", INDEX, MeetingOrders::new, x -> x.meeting(0, 0));
            Twins.refused("a cancelled one", INDEX, BUSY, x -> x.meeting(3, 0));
            Twins.refused("a cancelled one and what", INDEX, BUSY, x -> x.meeting(3, 6));
            Twins.refused("the number 60 of 60", INDEX, () -> Made.keeping(60), x -> x.meeting(60, 0));
            Twins.refused("one that is not kept any more", INDEX, () -> Made.atWeek(Made.busy(), 5),
                    x -> x.meeting(0, 0));
            Check.same("one that is kept still", Made.atWeek(Made.busy(), 4).meeting(0, 5), 2);
        });
        Sentences.says("Throws `IllegalArgumentException` if what is out of range", () -> {
            Twins.refused("-1", ARGUMENT, BUSY, x -> x.meeting(0, -1));
            Twins.refused("6", ARGUMENT, BUSY, x -> x.meeting(6, 6));
        });
    }

    private static void escort() {
        Sentences.section("Promise 17");
        Sentences.says("Returns something about an escort.",
                () -> Twins.tells("an answer", 4, BUSY, x -> x.escort(0, 1)));
        Sentences.says("`escort`: number of an escort",
                () -> Twins.range("escort", BUSY, 0, 1, INDEX, (x, n) -> x.escort(n, 0)));
        Sentences.says("`what`: 0 the set of slots, 1 the limit, 2 the meetings in the present week that are planned "
                + "or held, 3 the meetings with this escort that were held so far", () -> {
            Twins.range("what", BUSY, 0, 3, ARGUMENT, (x, what) -> x.escort(0, what));
            int[] first = {Made.ALL, 4, 2, 1};
            int[] second = {0b1001_0001, 20, 1, 0};
            for (int what = 0; what <= 3; what++) {
                int asked = what;
                Twins.tells("escort(0, " + what + ")", first[what], BUSY, x -> x.escort(0, asked));
                Twins.tells("escort(1, " + what + ")", second[what], BUSY, x -> x.escort(1, asked));
            }
        });
        Sentences.says("Returns that value.", () -> {
            MeetingOrders x = Made.atWeek(Made.busy(), 5);
            Check.same("the meeting of the week 5 in the week 5", x.escort(0, 2), 1);
            x.tell(6, true);
            Check.same("a held one counts still", x.escort(0, 2), 1);
            Check.same("held so far, in two weeks", x.escort(0, 3), 2);
            x.endWeek();
            Check.same("a new week", x.escort(0, 2), 0);
            Made.atWeek(x, 19);
            Check.same("held so far, and not kept any more", x.escort(0, 3), 2);
        });
        Sentences.says("Throws `IndexOutOfBoundsException` if there is no such escort", () -> {
            Twins.refused("none at all", INDEX, MeetingOrders::new, x -> x.escort(0, 0));
            Twins.refused("the escort 6", INDEX, Made::large, x -> x.escort(6, 0));
            Twins.refused("escort and what", INDEX, BUSY, x -> x.escort(-1, 4));
        });
        Sentences.says("Throws `IllegalArgumentException` if what is out of range", () -> {
            Twins.refused("-1", ARGUMENT, BUSY, x -> x.escort(1, -1));
            Twins.refused("4", ARGUMENT, BUSY, x -> x.escort(1, 4));
        });
    }

    private static void freeRooms() {
        Sentences.section("Promise 18");
        Sentences.says("Returns the free rooms of a venue.",
                () -> Twins.tells("all", 3, BUSY, x -> x.freeRooms(1, 19, 27)));
        Sentences.says("`venue`: number of a venue",
                () -> Twins.range("venue", BUSY, 0, 1, INDEX, (x, n) -> x.freeRooms(n, 0, 0)));
        Sentences.says("`week`: 0 to 19",
                () -> Twins.range("week", BUSY, 0, 19, ARGUMENT, (x, week) -> x.freeRooms(0, week, 0)));
        Sentences.says("`slot`: 0 to 27",
                () -> Twins.range("slot", BUSY, 0, 27, ARGUMENT, (x, slot) -> x.freeRooms(0, 0, slot)));
        Sentences.says("Returns its rooms minus its meetings in this slot of this week that are planned or held.", () -> {
            Twins.tells("a missed one", 1, BUSY, x -> x.freeRooms(0, 0, 0));
            Twins.tells("a held one in the only room", 0, BUSY, x -> x.freeRooms(0, 2, 0));
            Twins.tells("a planned one in the only room", 0, BUSY, x -> x.freeRooms(0, 2, 1));
            Twins.tells("a missed one, of three", 3, BUSY, x -> x.freeRooms(1, 2, 4));
            Twins.tells("a cancelled one, of three", 3, BUSY, x -> x.freeRooms(1, 2, 8));
            Twins.tells("a planned one, of three", 2, BUSY, x -> x.freeRooms(1, 5, 9));
            Twins.tells("the week before", 3, BUSY, x -> x.freeRooms(1, 4, 9));
            Twins.tells("the slot behind", 3, BUSY, x -> x.freeRooms(1, 5, 10));
            Twins.tells("the other venue", 1, BUSY, x -> x.freeRooms(0, 5, 9));
            MeetingOrders x = Made.large();
            for (int i = 0; i < 4; i++) {
                x.plan(i, 19, 27, i, 4);
                Check.same("free", x.freeRooms(4, 19, 27), 3 - i);
            }
        });
        Sentences.says("Throws `IndexOutOfBoundsException` if there is no such venue", () -> {
            Twins.refused("none at all", INDEX, MeetingOrders::new, x -> x.freeRooms(0, 0, 0));
            Twins.refused("the venue 5", INDEX, Made::large, x -> x.freeRooms(5, 0, 0));
            Twins.refused("venue and week", INDEX, BUSY, x -> x.freeRooms(2, 20, 0));
            Twins.refused("venue and slot", INDEX, BUSY, x -> x.freeRooms(-1, 0, 28));
        });
        Sentences.says("Throws `IllegalArgumentException` if week or slot is out of range", () -> {
            Twins.refused("the week -1", ARGUMENT, BUSY, x -> x.freeRooms(1, -1, 0));
            Twins.refused("the week 20", ARGUMENT, Made::large, x -> x.freeRooms(4, 20, 0));
            Twins.refused("the slot -1", ARGUMENT, BUSY, x -> x.freeRooms(1, 0, -1));
            Twins.refused("the slot 28", ARGUMENT, Made::large, x -> x.freeRooms(4, 19, 28));
        });
    }

    private static void value() {
        Sentences.section("Promise 19");
        Sentences.says("Returns a number.", () -> Twins.tells("an answer", 2, BUSY, x -> x.value(4)));
        Sentences.says("`what`: 0 the orders, 1 the escorts, 2 the venues, 3 the meetings that are kept, 4 the present "
                + "week, 5 the meetings that were planned so far (cancelled ones, too), 6 those that were held so far, "
                + "7 those that were missed so far, 8 the hours that are owed by all orders in the present week, "
                + "9 the number that the next meeting gets", () -> {
            Twins.range("what", BUSY, 0, 9, ARGUMENT, (x, what) -> x.value(what));
            int[] due = {2, 2, 2, 6, 2, 7, 1, 2, 12, 7};
            for (int what = 0; what <= 9; what++) {
                int asked = what;
                Twins.tells("value(" + what + ")", due[what], BUSY, x -> x.value(asked));
            }
        });
        Sentences.says("Returns that number.", () -> {
            MeetingOrders x = Made.keeping(60);
            int[] due = {8, 6, 5, 60, 0, 60, 0, 0, 56, 60};
            for (int what = 0; what <= 9; what++) {
                Check.same("value(" + what + ") of a full one", x.value(what), due[what]);
            }
            x.cancel(59);
            Check.same("planned so far, a cancelled one too", x.value(5), 60);
            Check.same("kept", x.value(3), 59);
            x.undo();
            x.undo();
            Check.same("planned so far, by undo()", x.value(5), 59);
            Check.same("the next number, by undo()", x.value(9), 59);
            mostTold(true, 240, 0, 0);
            mostTold(false, 0, 240, 240);
        });
        Sentences.says("Throws `IllegalArgumentException` if what is out of range", () -> {
            Twins.refused("-1", ARGUMENT, MeetingOrders::new, x -> x.value(-1));
            Twins.refused("10", ARGUMENT, MeetingOrders::new, x -> x.value(10));
        });
    }

    /** As many as 20 weeks have room for, when 60 are kept at a time. */
    private static void mostTold(boolean held, int allHeld, int allMissed, int owed) {
        MeetingOrders x = new MeetingOrders();
        x.addVenue(1);
        x.addEscort(Made.ALL, 12);
        x.addOrder(6, 1);
        x.addOrder(6, 1);
        for (int week = 0; week < 20; week++) {
            Made.atWeek(x, week);
            Check.same("planned in the week " + week, x.planWeek(week), 12);
            for (int i = 0; i < 12; i++) {
                x.tell(12 * week + i, held);
            }
        }
        Check.same("kept", x.value(3), 60);
        Check.same("held so far", x.value(6), allHeld);
        Check.same("missed so far", x.value(7), allMissed);
        Check.same("owed", x.value(8), owed);
        for (int order = 0; order < 2; order++) {
            Check.same("held so far, of the order " + order, x.order(order, 2), allHeld / 2);
            Check.same("missed so far, of the order " + order, x.order(order, 3), allMissed / 2);
        }
        Check.same("held so far, with the escort", x.escort(0, 3), allHeld);
        Check.same("the share that was held", x.kept(), held ? 1.0 : 0.0);
    }

    private static void why() {
        Sentences.section("Promise 20");
        Sentences.says("Tells why a meeting cannot be planned; of several reasons, the first one is told.",
                EdgesOfValues::firstReasons);
        Sentences.says("`order`: number of an order",
                () -> Twins.range("order", BUSY, 0, 1, INDEX, (x, n) -> x.why(n, 3, 0, 0, 0)));
        Sentences.says("`week`: 0 to 19",
                () -> Twins.range("week", BUSY, 0, 19, ARGUMENT, (x, week) -> x.why(0, week, 0, 0, 0)));
        Sentences.says("`slot`: 0 to 27",
                () -> Twins.range("slot", BUSY, 0, 27, ARGUMENT, (x, slot) -> x.why(0, 3, slot, 0, 0)));
        Sentences.says("`escort`: number of an escort",
                () -> Twins.range("escort", BUSY, 0, 1, INDEX, (x, n) -> x.why(0, 3, 0, n, 0)));
        Sentences.says("`venue`: number of a venue",
                () -> Twins.range("venue", BUSY, 0, 1, INDEX, (x, n) -> x.why(0, 3, 0, 0, n)));
        Sentences.says("Returns 0 it can be planned, 1 the week is before the present one, 2 the order does not allow "
                + "the venue, 3 the order has a meeting on this day, 4 the escort does not have the slot, 5 the escort "
                + "has a meeting in the slot, 6 the escort has as many meetings as the limit tells, 7 the venue has no "
                + "free room, 8 60 meetings are kept.", EdgesOfValues::allReasons);
        Sentences.says("Throws `IndexOutOfBoundsException` if there is no such order, escort or venue", () -> {
            Twins.refused("none at all", INDEX, MeetingOrders::new, x -> x.why(0, 0, 0, 0, 0));
            Twins.refused("the order 8", INDEX, Made::large, x -> x.why(8, 0, 0, 0, 0));
            Twins.refused("the escort 6", INDEX, Made::large, x -> x.why(0, 0, 0, 6, 0));
            Twins.refused("the venue 5", INDEX, Made::large, x -> x.why(0, 0, 0, 0, 5));
            Twins.refused("the venue, and the week and slot", INDEX, BUSY, x -> x.why(0, 20, 28, 0, 2));
            Twins.refused("the order, and 60 are kept", INDEX, () -> Made.keeping(60), x -> x.why(8, 3, 0, 0, 0));
        });
        Sentences.says("Throws `IllegalArgumentException` if week or slot is out of range", () -> {
            Twins.refused("the week -1, which is before the present one too", ARGUMENT, BUSY, x -> x.why(0, -1, 0, 0, 0));
            Twins.refused("the week 20", ARGUMENT, BUSY, x -> x.why(0, 20, 0, 0, 0));
            Twins.refused("the slot 28 of a past week", ARGUMENT, BUSY, x -> x.why(0, 0, 28, 0, 0));
        });
    }

    private static void allReasons() {
        Twins.tells("it can be planned", 0, BUSY, x -> x.why(1, 2, 16, 0, 1));
        Twins.tells("in the last slot of all", 0, BUSY, x -> x.why(1, 19, 27, 0, 1));
        Twins.tells("the week before the present one", 1, BUSY, x -> x.why(1, 1, 16, 0, 1));
        Twins.tells("the present week", 0, BUSY, x -> x.why(0, 2, 8, 0, 0));
        Twins.tells("the venue", 2, BUSY, x -> x.why(0, 2, 16, 0, 1));
        Twins.tells("the day, by a planned one", 3, BUSY, x -> x.why(0, 2, 3, 0, 0));
        Twins.tells("the day, by a held one", 3, BUSY, x -> x.why(1, 2, 3, 0, 0));
        Twins.tells("the day, by a missed one", 0, BUSY, x -> x.why(1, 2, 5, 0, 0));
        Twins.tells("the day, by a cancelled one", 0, BUSY, x -> x.why(1, 2, 9, 0, 0));
        Twins.tells("the slot of the escort", 4, BUSY, x -> x.why(1, 2, 8, 1, 0));
        Twins.tells("the escort's other meeting", 5, BUSY, x -> x.why(1, 2, 7, 1, 1));
        Supplier<MeetingOrders> full = () -> {
            MeetingOrders x = Made.busy();
            x.plan(1, 2, 12, 0, 0);
            x.plan(1, 2, 16, 0, 0);
            return x;
        };
        Twins.tells("four meetings and the limit 4", 6, full, x -> x.why(1, 2, 20, 0, 1));
        Twins.tells("three meetings and the limit 4", 0, () -> {
            MeetingOrders x = full.get();
            x.undo();
            return x;
        }, x -> x.why(1, 2, 20, 0, 1));
        Twins.tells("no room", 7, BUSY, x -> x.why(1, 2, 7, 0, 0));
        Twins.tells("60 are kept", 8, () -> Made.keeping(60), x -> x.why(7, 3, 0, 0, 0));
        Twins.tells("59 are kept", 0, () -> Made.keeping(59), x -> x.why(7, 3, 0, 0, 0));
    }

    /** All reasons at once; those from the second on can be taken away one by one, so that the next one is told. */
    private static void firstReasons() {
        MeetingOrders x = new MeetingOrders();
        x.addVenue(1);
        x.addVenue(4);
        for (int i = 0; i < 6; i++) {
            x.addEscort(Made.ALL, i == 0 ? 2 : 20);
        }
        for (int i = 0; i < 8; i++) {
            x.addOrder(7, 3);
        }
        x.endWeek();
        x.plan(0, 1, 1, 1, 1);
        x.plan(1, 1, 0, 0, 0);
        x.plan(2, 1, 5, 0, 0);
        x.planWeek(9);
        x.planWeek(10);
        Check.same("kept", x.value(3), 60);
        x.setSlots(0, Made.ALL - 1);
        x.allow(0, 2);
        Check.same("all of a past week", x.why(0, 0, 0, 0, 0), 1);
        Check.same("all", x.why(0, 1, 0, 0, 0), 2);
        x.allow(0, 3);
        Check.same("all but the venue", x.why(0, 1, 0, 0, 0), 3);
        x.cancel(0);
        x.planWeek(10);
        Check.same("all but the day", x.why(0, 1, 0, 0, 0), 4);
        x.setSlots(0, Made.ALL);
        Check.same("the escort's meeting, the limit, the room, and 60", x.why(0, 1, 0, 0, 0), 5);
        Check.same("the limit, and 60", x.why(0, 1, 8, 0, 0), 6);
        Check.same("the room, and 60", x.why(0, 1, 0, 1, 0), 7);
        Check.same("60", x.why(0, 1, 0, 1, 1), 8);
        limitBeforeRoom();
    }

    private static void limitBeforeRoom() {
        MeetingOrders x = new MeetingOrders();
        x.addVenue(1);
        x.addEscort(Made.ALL, 1);
        x.addEscort(Made.ALL, 1);
        x.addOrder(1, 1);
        x.addOrder(1, 1);
        x.plan(0, 0, 0, 0, 0);
        Check.same("the room alone", x.why(1, 0, 0, 1, 0), 7);
        x.plan(0, 0, 4, 1, 0);
        Check.same("the limit and the room", x.why(1, 0, 0, 1, 0), 6);
        Check.same("the escort's meeting, the limit and the room", x.why(1, 0, 4, 1, 0), 5);
    }

    private static void firstSlot() {
        Sentences.section("Promise 21");
        Sentences.says("Finds the lowest slot of a week in which a meeting of an order can be planned now, besides all "
                + "meetings that there are, whether hours are owed or not.", () -> {
            Twins.tells("besides what there is", 8, BUSY, x -> x.firstSlot(0, 2));
            Twins.tells("besides what there is, for the other", 4, BUSY, x -> x.firstSlot(1, 2));
            Twins.tells("a later week", 0, BUSY, x -> x.firstSlot(0, 3));
            MeetingOrders x = Made.small();
            x.change(0, 0, 0);
            Check.same("nothing is owed", x.firstSlot(0, 0), 0);
            x.setSlots(0, 1 << 27);
            Check.same("the last slot", x.firstSlot(0, 19), 27);
        });
        Sentences.says("`order`: number of an order",
                () -> Twins.range("order", BUSY, 0, 1, INDEX, (x, n) -> x.firstSlot(n, 2)));
        Sentences.says("`week`: 0 to 19",
                () -> Twins.range("week", BUSY, 0, 19, ARGUMENT, (x, week) -> x.firstSlot(0, week)));
        Sentences.says("Returns the slot; NONE if there is none, if the week is before the present one, "
                + "or if 60 meetings are kept.", () -> {
            MeetingOrders none = new MeetingOrders();
            none.addOrder(1, 0);
            Check.same("neither escorts nor venues", none.firstSlot(0, 0), -1);
            none.addVenue(1);
            none.allow(0, 1);
            Check.same("no escorts", none.firstSlot(0, 0), -1);
            none.addEscort(0, 1);
            Check.same("no slots", none.firstSlot(0, 0), -1);
            none.setSlots(0, 1);
            Check.same("a slot", none.firstSlot(0, 0), 0);
            Twins.tells("the week before the present one", -1, BUSY, x -> x.firstSlot(0, 1));
            Twins.tells("the first week", -1, BUSY, x -> x.firstSlot(0, 0));
            Twins.tells("59 are kept", 0, () -> Made.keeping(59), x -> x.firstSlot(0, 3));
            Twins.tells("60 are kept", -1, () -> Made.keeping(60), x -> x.firstSlot(0, 3));
        });
        Sentences.says("Throws `IndexOutOfBoundsException` if there is no such order", () -> {
            Twins.refused("none at all", INDEX, MeetingOrders::new, x -> x.firstSlot(0, 0));
            Twins.refused("the order 8", INDEX, Made::large, x -> x.firstSlot(8, 0));
            Twins.refused("the order, and 60 are kept", INDEX, () -> Made.keeping(60), x -> x.firstSlot(8, 0));
            Twins.refused("order and week", INDEX, BUSY, x -> x.firstSlot(2, 20));
        });
        Sentences.says("Throws `IllegalArgumentException` if week is out of range", () -> {
            Twins.refused("-1, which is before the present one too", ARGUMENT, BUSY, x -> x.firstSlot(0, -1));
            Twins.refused("20, and 60 are kept", ARGUMENT, () -> Made.keeping(60), x -> x.firstSlot(0, 20));
        });
    }

    private static void owedBehind() {
        Sentences.section("Promise 22");
        Sentences.says("Tells how many hours would be owed by all orders in a week behind planning it.", () -> {
            for (int week = 2; week < 20; week++) {
                int w = week;
                MeetingOrders planned = Made.busy();
                planned.planWeek(week);
                Twins.tells("week " + w, planned.owed(0, w) + planned.owed(1, w), BUSY, x -> x.owedBehind(w));
            }
        });
        Sentences.says("`week`: 0 to 19",
                () -> Twins.range("week", Made::small, 0, 19, ARGUMENT, (x, week) -> x.owedBehind(week)));
        Sentences.says("Returns the sum of the hours.", () -> {
            Twins.tells("no orders", 0, MeetingOrders::new, x -> x.owedBehind(19));
            Twins.tells("all can be planned", 0, Made::small, x -> x.owedBehind(2));
            Twins.tells("one hour more than days", 1, Made::small, x -> x.owedBehind(3));
            Twins.tells("nothing can be planned", 40, () -> {
                MeetingOrders x = Made.small();
                x.allow(0, 0);
                return x;
            }, x -> x.owedBehind(19));
            Twins.tells("eight orders with 7 of 14", 56, Made::large, x -> x.owedBehind(1));
            Twins.tells("none is kept", 224 - 56, Made::large, x -> x.owedBehind(3));
            Twins.tells("59 are kept", 224 - 59 - 1, () -> Made.keeping(59), x -> x.owedBehind(3));
            Twins.tells("60 are kept", 224 - 60, () -> Made.keeping(60), x -> x.owedBehind(3));
        });
        Sentences.says("Throws `IllegalArgumentException` if week is out of range", () -> {
            Twins.refused("-1, which is before the present one too", ARGUMENT, BUSY, x -> x.owedBehind(-1));
            Twins.refused("20", ARGUMENT, BUSY, x -> x.owedBehind(20));
        });
        Sentences.says("Throws `IllegalStateException` if the week is before the present one", () -> {
            Twins.refused("the week before", STATE, BUSY, x -> x.owedBehind(1));
            Twins.refused("the first week", STATE, BUSY, x -> x.owedBehind(0));
        });
    }

    private static void settledIn() {
        Sentences.section("Promise 23");
        Sentences.says("Finds the first week, from the present one on, in which nothing would be owed by any order if, "
                + "week by week, the present week was planned, all its planned meetings were held, and it ended",
                EdgesOfValues::settledWeeks);
        Sentences.says("(the week is looked at before it ends)", () -> {
            Twins.tells("one hour that is held in the week 0", 0, () -> Made.roomy(1, 1), MeetingOrders::settledIn);
            MeetingOrders x = Made.roomy(1, 1);
            x.change(0, 1, 7);
            Check.same("what the next week owes does not count yet", x.settledIn(), 0);
            MeetingOrders y = Made.atWeek(Made.roomy(1, 0), 19);
            y.change(0, 19, 7);
            Check.same("the week 19 is looked at, which cannot end", y.settledIn(), 19);
        });
        Sentences.says("Returns the week; NONE if there is none.", () -> {
            Twins.tells("no orders", 0, MeetingOrders::new, MeetingOrders::settledIn);
            Twins.tells("no orders, at the end", 19, () -> Made.atWeek(new MeetingOrders(), 19), MeetingOrders::settledIn);
            Twins.tells("never", -1, () -> {
                MeetingOrders x = Made.small();
                x.allow(0, 0);
                return x;
            }, MeetingOrders::settledIn);
            Twins.tells("an hour too much in the week 19", -1, () -> oneAWeek(21), MeetingOrders::settledIn);
            Twins.tells("just in the week 19", 19, () -> oneAWeek(20), MeetingOrders::settledIn);
            Twins.tells("a week before", 18, () -> oneAWeek(19), MeetingOrders::settledIn);
        });
    }

    /** All hours are owed in the weeks 0 to 2, 14 to 21 of them, and one can be held in a week. */
    private static MeetingOrders oneAWeek(int hours) {
        MeetingOrders x = new MeetingOrders();
        x.addVenue(1);
        x.addEscort(1 << 13, 1);
        x.addOrder(7, 1);
        x.change(0, 2, hours - 14);
        x.change(0, 3, 0);
        return x;
    }

    private static void settledWeeks() {
        for (int present = 0; present < 20; present++) {
            MeetingOrders x = Made.atWeek(Made.small(), present);
            int due = present;
            while (2 * (due + 1) > 7 * (due - present + 1)) {
                due++;
            }
            Check.same("seven a week, two more each, from " + present, x.settledIn(), due < 20 ? due : -1);
        }
        MeetingOrders x = oneAWeek(15);
        Check.same("one a week", x.settledIn(), 14);
        x.plan(0, 9, 13, 0, 0);
        Check.same("a meeting that was planned already", x.settledIn(), 14);
        x.setSlots(0, 0);
        Check.same("it alone does not do", x.settledIn(), -1);
        MeetingOrders y = Made.roomy(2, 0);
        y.change(0, 0, 1);
        y.change(0, 1, 0);
        y.change(1, 0, 1);
        y.change(1, 1, 0);
        y.plan(0, 3, 0, 0, 0);
        y.plan(1, 5, 0, 0, 0);
        for (int escort = 0; escort < 6; escort++) {
            y.setSlots(escort, 0);
        }
        Check.same("in the week of the last planned one", y.settledIn(), 5);
        y.endWeek();
        Check.same("from another week on", y.settledIn(), 5);
        sixtyOnTheWay();
    }

    /**
     * 60 are kept until the week 5 begins; then the 56 of the week 0 are not kept any more, and as many can be planned.
     */
    private static void sixtyOnTheWay() {
        MeetingOrders x = Made.large();
        x.planWeek(0);
        x.planWeek(1);
        for (int order = 0; order < 8; order++) {
            x.change(order, 1, 0);
        }
        x.endWeek();
        Check.same("56 that were missed, and 4 that are planned", x.settledIn(), 5);
    }

    private static void gainBy() {
        Sentences.section("Promise 24");
        Sentences.says("Tells how many meetings more planning a week could plan if an escort had no limit.", () -> {
            for (int limit = 1; limit <= 7; limit++) {
                int due = 7 - limit;
                int n = limit;
                Twins.tells("limit " + n, due, () -> limited(n), x -> x.gainBy(0, 3));
            }
            Twins.tells("the other escort has none", 0, () -> {
                MeetingOrders x = limited(3);
                x.addEscort(0, 1);
                return x;
            }, x -> x.gainBy(1, 3));
        });
        Sentences.says("`escort`: number of an escort",
                () -> Twins.range("escort", BUSY, 0, 1, INDEX, (x, n) -> x.gainBy(n, 2)));
        Sentences.says("`week`: 0 to 19",
                () -> Twins.range("week", Made::small, 0, 19, ARGUMENT, (x, week) -> x.gainBy(0, week)));
        Sentences.says("Returns the number of meetings that planWeek() would plan with the limit 20 instead, minus those "
                + "that it would plan.", EdgesOfValues::gains);
        Sentences.says("Throws `IndexOutOfBoundsException` if there is no such escort", () -> {
            Twins.refused("none at all", INDEX, MeetingOrders::new, x -> x.gainBy(0, 0));
            Twins.refused("the escort 6", INDEX, Made::large, x -> x.gainBy(6, 0));
            Twins.refused("escort and week", INDEX, BUSY, x -> x.gainBy(2, 20));
            Twins.refused("escort and a past week", INDEX, BUSY, x -> x.gainBy(-1, 1));
        });
        Sentences.says("Throws `IllegalArgumentException` if week is out of range", () -> {
            Twins.refused("-1, which is before the present one too", ARGUMENT, BUSY, x -> x.gainBy(0, -1));
            Twins.refused("20", ARGUMENT, BUSY, x -> x.gainBy(0, 20));
        });
        Sentences.says("Throws `IllegalStateException` if the week is before the present one", () -> {
            Twins.refused("the week before", STATE, BUSY, x -> x.gainBy(0, 1));
            Twins.refused("the first week", STATE, BUSY, x -> x.gainBy(1, 0));
        });
    }

    private static MeetingOrders limited(int limit) {
        MeetingOrders x = new MeetingOrders();
        x.addVenue(4);
        x.addEscort(Made.ALL, limit);
        x.addOrder(2, 1);
        return x;
    }

    private static void gains() {
        Twins.tells("limit 20 already", 0, Made::small, x -> x.gainBy(0, 3));
        Twins.tells("nothing is owed", 0, () -> {
            MeetingOrders x = limited(1);
            x.change(0, 0, 0);
            return x;
        }, x -> x.gainBy(0, 3));
        Twins.tells("not more than is owed", 1, () -> limited(1), x -> x.gainBy(0, 0));
        Twins.tells("not more than 20", 19, () -> {
            MeetingOrders x = limited(1);
            for (int i = 0; i < 7; i++) {
                x.addOrder(7, 1);
            }
            return x;
        }, x -> x.gainBy(0, 19));
        Twins.tells("60 are kept", 0, () -> {
            MeetingOrders x = Made.keeping(59);
            x.undo();
            x.undo();
            x.planWeek(4);
            return x;
        }, x -> x.gainBy(0, 4));
        Twins.tells("fewer than before", -1, EdgesOfValues::harmfulLimit, x -> x.gainBy(0, 0));
    }

    /**
     * With the limit, the escorts 1 and 2 plan 3 and 2 meetings. Without it, the escort 0 takes the slot 2 as well, so
     * that the escort 2 has the fewest for the slot 8, is full behind the slot 5, and is missing in the slot 12.
     */
    private static MeetingOrders harmfulLimit() {
        MeetingOrders x = new MeetingOrders();
        x.addVenue(1);
        x.addEscort(1 | 1 << 2 | 1 << 5, 1);
        x.addEscort(1 << 4 | 1 << 8 | 1 << 9, 3);
        x.addEscort(1 << 4 | 1 << 5 | 1 << 8 | 1 << 12, 2);
        x.addOrder(2, 1);
        x.addOrder(4, 1);
        return x;
    }

    private static void kept() {
        Sentences.section("Promise 25");
        Sentences.says("Returns the share of meetings that were held.", () -> {
            for (int held = 0; held <= 5; held++) {
                MeetingOrders x = Made.small();
                for (int day = 0; day < 5; day++) {
                    x.plan(0, 0, 4 * day, 0, 0);
                    x.tell(day, day < held);
                }
                Check.same(held + " of five", x.kept(), (double) held / 5.0);
            }
        });
        Sentences.says("Returns the meetings that were held so far, converted to double, divided by those that were held "
                + "or missed so far, converted to double; 1.0 if there were none.", () -> {
            Check.same("no meetings", new MeetingOrders().kept(), 1.0);
            MeetingOrders x = Made.small();
            x.plan(0, 0, 0, 0, 0);
            Check.same("a planned one alone", x.kept(), 1.0);
            x.plan(0, 0, 4, 0, 0);
            x.cancel(1);
            Check.same("a cancelled one, too", x.kept(), 1.0);
            x.tell(0, false);
            Check.same("a missed one alone", x.kept(), 0.0);
            x.undo();
            x.tell(0, true);
            Check.same("a held one alone", x.kept(), 1.0);
            x.plan(0, 0, 8, 0, 0);
            Check.same("planned ones do not count", x.kept(), 1.0);
            x.endWeek();
            Check.same("missed by the end of the week", x.kept(), 0.5);
            Made.atWeek(x, 9);
            Check.same("not kept any more", x.kept(), 0.5);
            Check.same("one of three", Made.busy().kept(), 1.0 / 3.0);
            MeetingOrders y = Made.busy();
            y.kept();
            Twins.goOnAlike("kept()", y, Made.busy());
        });
    }

    private static void digest() {
        Sentences.section("Promise 30");
        Sentences.says("Returns a hash of the state.",
                () -> Twins.tells("twice", Made.busy().digest(), BUSY, MeetingOrders::digest));
        Sentences.says("Start with h = 3739 and, for each of the following values v, set h = 31 * h + v: the length of "
                + "the text; value() for 0 to 9; for each order the values of order() for what = 0 to 6, and its hours() "
                + "for the weeks 0 to 19; for each escort the values of escort() for what = 0 to 3; for each venue its "
                + "rooms; for each meeting that is kept, in ascending order, its number and the values of meeting() for "
                + "what = 0 to 5; settledIn(); the number of saved states.", EdgesOfValues::digests);
        Sentences.says("Returns the hash, with the overflow of long arithmetic ignored.", () -> {
            Check.same("a new object: thirteen values, all 0", new MeetingOrders().digest(), hash(new long[13]));
            Check.same("many values", Made.busy().digest(), hash(valuesOfBusy()));
        });
    }

    /** The last 64 bits of the whole number. */
    private static long hash(long[] values) {
        BigInteger h = BigInteger.valueOf(3739);
        for (long v : values) {
            h = h.multiply(BigInteger.valueOf(31)).add(BigInteger.valueOf(v));
        }
        return h.longValue();
    }

    private static void digests() {
        long[] text = new long[13];
        for (int length = 0; length <= 100; length++) {
            text[0] = length;
            Check.same("an empty object, " + length + " bytes", Made.write(new MeetingOrders(), "x".repeat(length)).digest(),
                    hash(text));
        }
        MeetingOrders venue = new MeetingOrders();
        venue.addVenue(3);
        Check.same("a venue", venue.digest(), hash(new long[] {0, 0, 0, 1, 0, 0, 0, 0, 0, 0, 0, 3, 0, 1}));
        venue.addOrder(7, 0);
        long[] never = {0, 1, 0, 1, 0, 0, 0, 0, 0, 7, 0, 7, 0, 0, 0, 0, 7, 140, 7, 7, 7, 7, 7, 7, 7, 7, 7, 7, 7, 7, 7, 7, 7, 7,
            7, 7, 7, 7, 3, -1, 2};
        Check.same("settledIn() is NONE", venue.digest(), hash(never));
        MeetingOrders escort = new MeetingOrders();
        escort.addEscort(9, 7);
        Check.same("an escort", escort.digest(), hash(new long[] {0, 0, 1, 0, 0, 0, 0, 0, 0, 0, 0, 9, 7, 0, 0, 0, 1}));
        for (int saved = 0; saved < 6; saved++) {
            MeetingOrders x = new MeetingOrders();
            for (int i = 0; i < saved; i++) {
                x.carryOut();
            }
            long[] due = new long[13];
            due[12] = Math.min(4, saved);
            Check.same(saved + " saved states", x.digest(), hash(due));
        }
        Check.same("something of everything", Made.busy().digest(), hash(valuesOfBusy()));
        MeetingOrders weeks = new MeetingOrders();
        weeks.addOrder(0, 0);
        long[] due = {0, 1, 0, 0, 0, 0, 0, 0, 0, 0, 0, 0, 0, 0, 0, 0, 0, 62, 0, 1, 2, 3, 4, 5, 6, 7, 0, 1, 2, 3, 4, 5, 6, 7, 0, 1, 2,
            3, 0, 4};
        for (int week = 0; week < 20; week++) {
            weeks.change(0, week, week % 8);
        }
        Check.same("hours that differ", weeks.digest(), hash(due));
        MeetingOrders x = Made.busy();
        x.cancel(4);
        x.undo();
        long[] again = valuesOfBusy();
        again[again.length - 1] = 3;
        Check.same("in ascending order behind undo(), too", x.digest(), hash(again));
    }

    private static long[] valuesOfBusy() {
        long[] head = {14, 2, 2, 2, 6, 2, 7, 1, 2, 12, 7};
        long[] first = {2, 1, 0, 1, 2, 4, 40, 2, 2, 2, 2, 2, 2, 2, 2, 2, 2, 2, 2, 2, 2, 2, 2, 2, 2, 2, 2};
        long[] second = {3, 3, 1, 1, 1, 8, 60, 3, 3, 3, 3, 3, 3, 3, 3, 3, 3, 3, 3, 3, 3, 3, 3, 3, 3, 3, 3};
        long[] escorts = {Made.ALL, 4, 2, 1, 0b1001_0001, 20, 1, 0};
        long[] venues = {1, 3};
        long[] meetings = {0, 0, 0, 0, 0, 0, 2, 1, 1, 2, 0, 0, 0, 1, 2, 1, 2, 4, 1, 1, 2, 4, 0, 2, 1, 0, 0, 0,
            5, 0, 2, 7, 1, 0, 0, 6, 1, 5, 9, 0, 1, 0};
        long[] end = {Made.busy().settledIn(), 4};
        return Stream.of(head, first, second, escorts, venues, meetings, end).flatMapToLong(Arrays::stream).toArray();
    }
}

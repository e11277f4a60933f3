import java.util.function.Supplier;
import java.util.function.ToLongFunction;

/** The sentences of "## Terms" about undo() and about exceptions, and Promise 29. */
final class EdgesOfUndo {
    private EdgesOfUndo() {
    }

    static void run() {
        Sentences.section("Terms");
        Sentences.saysNothingToTest("Undo.");
        Sentences.says("Each successful call of a method whose description says \"undoable\" saves the state from before "
                + "the call", EdgesOfUndo::undoables);
        Sentences.says("even if the call changes nothing", EdgesOfUndo::evenWithoutChange);
        Sentences.says("at most 4 states are saved", EdgesOfUndo::fourStates);
        Sentences.says("and the oldest is dropped first", EdgesOfUndo::oldestFirst);
        Sentences.says("The saved state contains everything except the text.", EdgesOfUndo::everythingButText);
        Sentences.saysNothingToTest("Exceptions.");
        Sentences.says("A call that throws an exception changes nothing.", EdgesOfUndo::refusedCalls);
        Sentences.says("If several exceptions apply, the one that is listed first is thrown.",
                EdgesOfUndo::listedFirst);
        Sentences.section("Promise 29");
        Sentences.says("Restores the most recently saved state and removes it from the saved states.",
                EdgesOfUndo::removes);
        Sentences.says("Returns the number of saved states that remain.", EdgesOfUndo::remaining);
        Sentences.says("Throws `IllegalStateException` if there is no saved state", EdgesOfUndo::noSavedState);
    }

    private static void undoables() {
        Supplier<MeetingOrders> busy = Made::busy;
        Twins.undoable(busy, x -> x.addOrder(7, 3));
        Twins.undoable(busy, x -> x.change(1, 2, 7));
        Twins.undoable(busy, x -> x.allow(1, 0));
        Twins.undoable(busy, x -> x.addEscort(5, 5));
        Twins.undoable(busy, x -> x.setSlots(1, 5));
        Twins.undoable(busy, x -> x.addVenue(4));
        Twins.undoable(busy, x -> x.plan(0, 4, 16, 0, 0));
        Twins.undoable(busy, x -> x.planWeek(3));
        Twins.undoable(busy, x -> x.cancel(6));
        Twins.undoable(busy, x -> x.tell(4, true));
        Twins.undoable(busy, x -> x.endWeek());
        Twins.undoable(busy, x -> x.carryOut());
        others();
    }

    private static void others() {
        savesNothing("order", x -> x.order(0, 0));
        savesNothing("hours", x -> x.hours(0, 0));
        savesNothing("owed", x -> x.owed(0, 0));
        savesNothing("meeting", x -> x.meeting(4, 0));
        savesNothing("escort", x -> x.escort(0, 0));
        savesNothing("freeRooms", x -> x.freeRooms(0, 0, 0));
        savesNothing("value", x -> x.value(0));
        savesNothing("why", x -> x.why(0, 0, 0, 0, 0));
        savesNothing("firstSlot", x -> x.firstSlot(0, 2));
        savesNothing("owedBehind", x -> x.owedBehind(2));
        savesNothing("settledIn", x -> x.settledIn());
        savesNothing("gainBy", x -> x.gainBy(0, 2));
        savesNothing("kept", x -> (long) x.kept());
        savesNothing("append", x -> x.append(0));
        savesNothing("clearText", x -> x.clearText());
        savesNothing("digest", x -> x.digest());
        savesNothing("carryOut with a syntax error", x -> Made.write(x, "x").carryOut());
    }

    private static void savesNothing(String name, ToLongFunction<MeetingOrders> call) {
        MeetingOrders x = Made.unsaved(Made.busy());
        call.applyAsLong(x);
        Check.throwsJust("undo() behind " + name, Twins.STATE, x::undo);
    }

    private static void evenWithoutChange() {
        Twins.undoable(Made::busy, x -> x.change(0, 2, 2));
        Twins.undoable(Made::busy, x -> x.allow(0, 1));
        Twins.undoable(Made::busy, x -> x.setSlots(0, Made.ALL));
        Twins.undoable(MeetingOrders::new, x -> x.planWeek(0));
        Twins.undoable(MeetingOrders::new, x -> x.carryOut());
        Twins.undoable(() -> Made.keeping(60), x -> x.planWeek(3));
    }

    /** So many escorts were added, the escort i with the limit i + 1. */
    private static MeetingOrders escorts(int count) {
        MeetingOrders x = new MeetingOrders();
        for (int i = 0; i < count; i++) {
            x.addEscort(i, i + 1);
        }
        return x;
    }

    private static void fourStates() {
        for (int count = 0; count <= 6; count++) {
            MeetingOrders x = escorts(count);
            for (int left = Math.min(4, count) - 1; left >= 0; left--) {
                Check.same("undo() behind " + count + " calls", x.undo(), left);
            }
            Check.throwsJust("one undo() too many behind " + count + " calls", Twins.STATE, x::undo);
        }
        MeetingOrders x = new MeetingOrders();
        for (int i = 0; i < 400; i++) {
            x.planWeek(i % 20);
        }
        Check.same("behind 400 calls", x.undo(), 3);
    }

    private static void oldestFirst() {
        MeetingOrders x = escorts(6);
        for (int left = 5; left >= 2; left--) {
            x.undo();
            Check.same("escorts that are left", x.value(1), left);
            Check.same("the limit of the last one", x.escort(left - 1, 1), left);
        }
        Check.throwsJust("the oldest two are dropped", Twins.STATE, x::undo);
        x.addEscort(7, 7);
        x.addEscort(8, 8);
        x.undo();
        x.addEscort(9, 9);
        x.undo();
        Check.same("a state that was removed is not found again", x.escort(2, 1), 7);
        Check.same("the last one that is left", x.undo(), 0);
        Check.same("two escorts", x.value(1), 2);
    }

    private static void everythingButText() {
        MeetingOrders x = Made.busy();
        String before = facts(x);
        x.change(0, 2, 7);
        x.allow(1, 2);
        x.setSlots(0, 9);
        x.tell(4, true);
        undoAll(x, before);
        x.tell(5, false);
        x.cancel(6);
        x.planWeek(2);
        x.endWeek();
        undoAll(x, before);
        x.addOrder(5, 1);
        x.addEscort(5, 5);
        x.addVenue(2);
        x.plan(2, 4, 0, 2, 0);
        undoAll(x, before);
        Made.write(x, "w;w;w;w;w;w;w;w;h0;");
        Check.same("eight weeks, and meetings that are not kept any more", x.carryOut(), 8);
        x.undo();
        Check.same("what the orders of the text changed", facts(x), before);
        eachFact();
        butText();
    }

    /** Numbers that all differ, so that none can stand for another. */
    private static void eachFact() {
        MeetingOrders x = new MeetingOrders();
        for (int rooms = 1; rooms <= 4; rooms++) {
            x.addVenue(rooms);
        }
        x.addEscort(Made.ALL, 9);
        x.addEscort(15, 8);
        x.addEscort(3, 7);
        x.addOrder(6, 15);
        x.endWeek();
        x.addOrder(5, 7);
        for (int day = 0; day < 6; day++) {
            x.plan(0, 1, 4 * day, 0, 0);
            x.tell(day, day > 3);
        }
        x.plan(1, 1, 3, 1, 2);
        x.tell(6, true);
        x.plan(1, 1, 7, 0, 2);
        x.tell(7, true);
        String before = facts(x) + x.freeRooms(2, 1, 3) + x.freeRooms(3, 0, 0) + x.escort(2, 1) + x.kept();
        x.addVenue(1);
        x.undo();
        String behind = facts(x) + x.freeRooms(2, 1, 3) + x.freeRooms(3, 0, 0) + x.escort(2, 1) + x.kept();
        Check.same("each number", behind, before);
        Check.same("a question", x.owedBehind(3), 22 + 13 - 10);
        Check.same("another question", x.gainBy(0, 3), 14 - 10);
        behind = facts(x) + x.freeRooms(2, 1, 3) + x.freeRooms(3, 0, 0) + x.escort(2, 1) + x.kept();
        Check.same("each number, behind the question", behind, before);
    }

    private static void butText() {
        MeetingOrders x = Made.busy();
        x.endWeek();
        x.append('w');
        x.undo();
        Check.same("a byte behind the saved state stays", x.clearText(), 15);
        x.append('w');
        x.endWeek();
        x.clearText();
        x.undo();
        Check.same("a text that was emptied stays empty", x.clearText(), 0);
        Made.write(x, "w;w;");
        Check.same("two weeks", x.carryOut(), 2);
        x.undo();
        Check.same("carried out again behind undo()", x.carryOut(), 2);
    }

    private static void undoAll(MeetingOrders x, String before) {
        for (int i = 0; i < 4; i++) {
            x.undo();
        }
        Check.same("behind four calls and four undo()", facts(x), before);
    }

    private static String facts(MeetingOrders x) {
        StringBuilder s = new StringBuilder();
        for (int what = 0; what <= 9; what++) {
            s.append(x.value(what)).append(' ');
        }
        for (int order = 0; order < x.value(0); order++) {
            s.append(x.hours(order, 2)).append(' ').append(x.hours(order, 0)).append(' ');
            for (int what = 1; what <= 4; what++) {
                s.append(x.order(order, what)).append(' ');
            }
        }
        for (int escort = 0; escort < x.value(1); escort++) {
            for (int what = 0; what <= 3; what++) {
                s.append(' ').append(x.escort(escort, what));
            }
        }
        for (int number : new int[] {0, 1, 2, 4, 5, 6}) {
            s.append(' ').append(x.meeting(number, 5));
        }
        return s.append(' ').append(x.settledIn()).toString();
    }

    private static void refused(String what, Class<?> kind, ToLongFunction<MeetingOrders> call) {
        Twins.refused(what, kind, Made::busy, call);
    }

    private static void refusedCalls() {
        refused("addOrder", Twins.ARGUMENT, x -> x.addOrder(8, 0));
        refused("change, order", Twins.INDEX, x -> x.change(2, 2, 5));
        refused("change, week", Twins.ARGUMENT, x -> x.change(0, 1, 5));
        refused("change, hours", Twins.ARGUMENT, x -> x.change(0, 2, 8));
        refused("allow, order", Twins.INDEX, x -> x.allow(2, 0));
        refused("allow, venues", Twins.ARGUMENT, x -> x.allow(0, 4));
        refused("addEscort, slots", Twins.ARGUMENT, x -> x.addEscort(-1, 1));
        refused("addEscort, limit", Twins.ARGUMENT, x -> x.addEscort(1, 0));
        refused("setSlots, escort", Twins.INDEX, x -> x.setSlots(2, 0));
        refused("setSlots, slots", Twins.ARGUMENT, x -> x.setSlots(0, -1));
        refused("addVenue", Twins.ARGUMENT, x -> x.addVenue(0));
        refused("plan, order", Twins.INDEX, x -> x.plan(2, 2, 20, 0, 0));
        refused("plan, week", Twins.ARGUMENT, x -> x.plan(0, 20, 20, 0, 0));
        refused("plan, a past week", Twins.STATE, x -> x.plan(0, 1, 20, 0, 0));
        refused("planWeek", Twins.ARGUMENT, x -> x.planWeek(20));
        refused("planWeek, a past week", Twins.STATE, x -> x.planWeek(1));
        refused("cancel, a cancelled one", Twins.INDEX, x -> x.cancel(3));
        refused("cancel, a held one", Twins.STATE, x -> x.cancel(1));
        refused("tell, a cancelled one", Twins.INDEX, x -> x.tell(3, true));
        refused("tell, a held one", Twins.STATE, x -> x.tell(1, false));
        refused("order", Twins.ARGUMENT, x -> x.order(0, 7));
        refused("hours", Twins.ARGUMENT, x -> x.hours(0, 20));
        refused("owed", Twins.ARGUMENT, x -> x.owed(0, 20));
        refused("meeting", Twins.ARGUMENT, x -> x.meeting(4, 6));
        refused("escort", Twins.ARGUMENT, x -> x.escort(0, 4));
        refused("freeRooms", Twins.ARGUMENT, x -> x.freeRooms(0, 0, 28));
        refused("value", Twins.ARGUMENT, x -> x.value(10));
        refused("why", Twins.ARGUMENT, x -> x.why(0, 0, 28, 0, 0));
        refused("firstSlot", Twins.ARGUMENT, x -> x.firstSlot(0, 20));
        refused("owedBehind", Twins.STATE, x -> x.owedBehind(1));
        refused("gainBy", Twins.STATE, x -> x.gainBy(0, 1));
        refused("append", Twins.ARGUMENT, x -> x.append(128));
        Twins.refused("endWeek", Twins.STATE, () -> Made.atWeek(Made.busy(), 19), x -> x.endWeek());
        Twins.refused("undo", Twins.STATE, () -> Made.unsaved(Made.busy()), x -> x.undo());
    }

    private static void listedFirst() {
        MeetingOrders full = Made.large();
        Check.throwsJust("addOrder, hours and 8 orders", Twins.ARGUMENT, () -> full.addOrder(8, 0));
        Check.throwsJust("addOrder, venues and 8 orders", Twins.ARGUMENT, () -> full.addOrder(0, 32));
        Check.throwsJust("addEscort, slots and 6 escorts", Twins.ARGUMENT, () -> full.addEscort(-1, 1));
        Check.throwsJust("addEscort, limit and 6 escorts", Twins.ARGUMENT, () -> full.addEscort(0, 21));
        Check.throwsJust("addVenue, rooms and 5 venues", Twins.ARGUMENT, () -> full.addVenue(5));
        refused("change, order and week", Twins.INDEX, x -> x.change(2, 1, 5));
        refused("change, order and hours", Twins.INDEX, x -> x.change(-1, 2, 8));
        refused("allow, order and venues", Twins.INDEX, x -> x.allow(2, 4));
        refused("setSlots, escort and slots", Twins.INDEX, x -> x.setSlots(2, -1));
        refused("plan, order and week", Twins.INDEX, x -> x.plan(2, 20, 0, 0, 0));
        refused("plan, escort and slot", Twins.INDEX, x -> x.plan(0, 2, 28, 2, 0));
        refused("plan, venue and a past week", Twins.INDEX, x -> x.plan(0, 1, 0, 0, 2));
        refused("plan, slot and a past week", Twins.ARGUMENT, x -> x.plan(0, 1, 28, 0, 0));
        refused("plan, week and what stands in the way", Twins.ARGUMENT, x -> x.plan(0, 20, 1, 0, 1));
        refused("planWeek, a week below 0 is before the present one too", Twins.ARGUMENT, x -> x.planWeek(-1));
        refused("owedBehind, a week below 0 is before the present one too", Twins.ARGUMENT, x -> x.owedBehind(-1));
        refused("gainBy, escort and week", Twins.INDEX, x -> x.gainBy(2, 20));
        refused("gainBy, escort and a past week", Twins.INDEX, x -> x.gainBy(-1, 1));
        refused("gainBy, a week below 0 is before the present one too", Twins.ARGUMENT, x -> x.gainBy(0, -1));
        refused("order, order and what", Twins.INDEX, x -> x.order(2, 7));
        refused("hours, order and week", Twins.INDEX, x -> x.hours(2, 20));
        refused("owed, order and week", Twins.INDEX, x -> x.owed(2, 20));
        refused("meeting, meeting and what", Twins.INDEX, x -> x.meeting(3, 6));
        refused("escort, escort and what", Twins.INDEX, x -> x.escort(2, 4));
        refused("freeRooms, venue and week", Twins.INDEX, x -> x.freeRooms(2, 20, 0));
        refused("freeRooms, venue and slot", Twins.INDEX, x -> x.freeRooms(-1, 0, 28));
        refused("why, order and week", Twins.INDEX, x -> x.why(2, 20, 0, 0, 0));
        refused("why, escort and slot", Twins.INDEX, x -> x.why(0, 0, 28, 2, 0));
        refused("why, venue and week", Twins.INDEX, x -> x.why(0, -1, 0, 0, -1));
        refused("firstSlot, order and week", Twins.INDEX, x -> x.firstSlot(2, 20));
        Check.throwsJust("append, value and 100 bytes", Twins.ARGUMENT,
                () -> Made.write(new MeetingOrders(), "x".repeat(100)).append(128));
    }

    private static void removes() {
        MeetingOrders x = escorts(3);
        x.setSlots(0, 77);
        x.undo();
        Check.same("the last call is undone", x.escort(0, 0), 0);
        Check.same("the others are not", x.value(1), 3);
        x.undo();
        Check.same("then the one before it", x.value(1), 2);
        x.addEscort(9, 9);
        x.undo();
        Check.same("a new one", x.value(1), 2);
        x.undo();
        Check.same("and the one before that", x.value(1), 1);
        x.undo();
        Check.same("the first call", x.value(1), 0);
        Check.throwsJust("undo() is not undoable", Twins.STATE, x::undo);
    }

    private static void remaining() {
        MeetingOrders x = escorts(2);
        Check.same("two saved", x.undo(), 1);
        x.addEscort(1, 1);
        Check.same("two saved again", x.undo(), 1);
        Check.same("one saved", x.undo(), 0);
        MeetingOrders y = escorts(5);
        Check.same("five calls", y.undo(), 3);
        y.addVenue(1);
        y.addVenue(1);
        Check.same("full again", y.undo(), 3);
    }

    private static void noSavedState() {
        Twins.refused("a new object", Twins.STATE, MeetingOrders::new, x -> x.undo());
        Twins.refused("all are removed", Twins.STATE, () -> Made.unsaved(Made.small()), x -> x.undo());
        MeetingOrders x = escorts(1);
        Check.same("one saved state", x.undo(), 0);
        Check.throwsJust("none then", Twins.STATE, x::undo);
        Check.throwsJust("none again", Twins.STATE, x::undo);
    }
}

import java.util.function.LongSupplier;
import java.util.function.Supplier;
import java.util.function.ToLongFunction;

/** Compares an object with a twin that did not get one of its calls: both have to go on alike. */
final class Twins {
    static final Class<?> INDEX = IndexOutOfBoundsException.class;
    static final Class<?> ARGUMENT = IllegalArgumentException.class;
    static final Class<?> STATE = IllegalStateException.class;

    interface Call {
        long on(MeetingOrders x, int value);
    }

    private Twins() {
    }

    /** The call throws exactly this exception, and changes nothing. */
    static void refused(String what, Class<?> kind, Supplier<MeetingOrders> make, ToLongFunction<MeetingOrders> call) {
        MeetingOrders x = make.get();
        Check.throwsJust(what, kind, () -> call.applyAsLong(x));
        goOnAlike(what, x, make.get());
    }

    /** The call answers this, and changes nothing. */
    static void tells(String what, long due, Supplier<MeetingOrders> make, ToLongFunction<MeetingOrders> call) {
        MeetingOrders x = make.get();
        Check.same(what, call.applyAsLong(x), due);
        goOnAlike(what, x, make.get());
    }

    /** The values from low to high are taken; those next to them are refused, and those farthest from them. */
    static void range(String name, Supplier<MeetingOrders> make, int low, int high, Class<?> kind, Call call) {
        taken(name, make, low, high, call);
        refused(name + " " + (low - 1), kind, make, x -> call.on(x, low - 1));
        refused(name + " " + (high + 1), kind, make, x -> call.on(x, high + 1));
        refused(name + ", the least int", kind, make, x -> call.on(x, Integer.MIN_VALUE));
        refused(name + ", the greatest int", kind, make, x -> call.on(x, Integer.MAX_VALUE));
    }

    private static void taken(String name, Supplier<MeetingOrders> make, int low, int high, Call call) {
        int step = high - low > 200 ? high - low : 1;
        for (int value = low; value <= high; value += step) {
            try {
                call.on(make.get(), value);
            } catch (RuntimeException e) {
                Check.fail(name + " " + value + " threw " + e);
            }
        }
    }

    /**
     * Undoable: one state is saved, undo() brings back what was before, and four that were saved ahead of the call
     * become three and the new one.
     */
    static void undoable(Supplier<MeetingOrders> make, ToLongFunction<MeetingOrders> call) {
        Supplier<MeetingOrders> unsaved = () -> Made.unsaved(make.get());
        MeetingOrders x = unsaved.get();
        call.applyAsLong(x);
        Check.same("undo() behind the call", answer(x::undo), "0");
        goOnAlike("undo() behind the call", x, unsaved.get());
        MeetingOrders full = unsaved.get();
        for (int i = 0; i < 4; i++) {
            full.carryOut();
        }
        call.applyAsLong(full);
        Check.same("undo() with four saved states", answer(full::undo), "3");
        MeetingOrders due = unsaved.get();
        for (int i = 0; i < 3; i++) {
            due.carryOut();
        }
        goOnAlike("undo() with four saved states", full, due);
    }

    static void goOnAlike(String what, MeetingOrders x, MeetingOrders twin) {
        Check.same(what + ": what comes behind it", future(x), future(twin));
    }

    /** The digest leaves out the bytes of the text and what is saved; they come out by calls. */
    private static String future(MeetingOrders x) {
        StringBuilder answers = new StringBuilder();
        tell(answers, x, x::digest);
        for (int i = 0; i < 5; i++) {
            tell(answers, x, x::undo);
        }
        tell(answers, x, x::carryOut);
        tell(answers, x, () -> x.addVenue(2));
        tell(answers, x, () -> x.addEscort(7, 3));
        tell(answers, x, () -> x.addOrder(4, 1));
        tell(answers, x, () -> x.planWeek(x.value(4)));
        tell(answers, x, () -> x.tell(x.value(9) - 1, true));
        tell(answers, x, x::endWeek);
        return answers.toString();
    }

    private static void tell(StringBuilder answers, MeetingOrders x, LongSupplier call) {
        answers.append(answer(call)).append(' ').append(answer(x::digest)).append("; ");
    }

    private static String answer(LongSupplier call) {
        try {
            return "" + call.getAsLong();
        } catch (RuntimeException e) {
            return e.getClass().getSimpleName();
        }
    }
}

import java.util.concurrent.atomic.AtomicInteger;
import java.util.function.LongSupplier;

/** Counts the answers that are not the due ones. */
final class Check {
    private static final AtomicInteger ASKED = new AtomicInteger();
    private static volatile String place = "";
    private static int wrong = 0;

    private Check() {
    }

    /** A call that does not end is wrong, too: behind this time the test fails. */
    static void endWithin(int seconds) {
        Thread watch = new Thread(() -> {
            try {
                Thread.sleep(1000L * seconds);
            } catch (InterruptedException e) {
                return;
            }
            System.out.println("wrong: " + place + "no end within " + seconds + " seconds");
            Runtime.getRuntime().halt(1);
        });
        watch.setDaemon(true);
        watch.start();
    }

    /** What stands ahead of each message from here on. */
    static void at(String newPlace) {
        place = newPlace;
    }

    /** How many checks were made so far. */
    static int asked() {
        return ASKED.get();
    }

    static void same(String what, long got, long due) {
        isTrue(what + " answered " + got + ", due is " + due, got == due);
    }

    static void same(String what, double got, double due) {
        isTrue(what + " answered " + got + ", due is " + due, Double.compare(got, due) == 0);
    }

    static void same(String what, String got, String due) {
        isTrue(what + " answered " + got + ", due is " + due, got.equals(due));
    }

    static void isTrue(String what, boolean holds) {
        ASKED.incrementAndGet();
        if (!holds) {
            fail(what);
        }
    }

    /** The call throws exactly this exception and changes nothing. */
    static void refused(MeetingOrders x, String what, Class<?> kind, LongSupplier call) {
        long before = x.digest();
        throwsJust(what, kind, call);
        same(what + ": the digest behind the refused call", x.digest(), before);
    }

    /** Of this class and of none below it: those below are the machine's own. */
    static void throwsJust(String what, Class<?> kind, LongSupplier call) {
        ASKED.incrementAndGet();
        try {
            fail(what + " answered " + call.getAsLong() + ", due is " + kind.getSimpleName());
        } catch (RuntimeException e) {
            if (e.getClass() != kind) {
                fail(what + " threw " + e + ", due is " + kind.getSimpleName());
            }
        }
    }

    static synchronized void fail(String message) {
        wrong++;
        if (wrong <= 50) {
            System.out.println("wrong: " + place + message);
        }
    }

    static void end() {
        System.out.println(wrong == 0 ? "all answers are as due" : wrong + " answers are not as due");
        if (wrong != 0) {
            System.exit(1);
        }
    }
}

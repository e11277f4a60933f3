import java.util.function.LongSupplier;

/** Counts the answers that are not the due ones. */
final class Check {
    private static int wrong = 0;

    private Check() {
    }

    static void same(String what, long got, long due) {
        if (got != due) {
            fail(what + " answered " + got + ", due is " + due);
        }
    }

    static void same(String what, double got, double due) {
        if (Double.compare(got, due) != 0) {
            fail(what + " answered " + got + ", due is " + due);
        }
    }

    static void isTrue(String what, boolean holds) {
        if (!holds) {
            fail(what);
        }
    }

    /** The call throws exactly this exception and changes nothing. */
    static void refused(MeetingOrders x, String what, Class<?> kind, LongSupplier call) {
        long before = x.digest();
        try {
            fail(what + " answered " + call.getAsLong() + ", due is " + kind.getSimpleName());
        } catch (RuntimeException e) {
            if (e.getClass() != kind) {
                fail(what + " threw " + e + ", due is " + kind.getSimpleName());
            }
        }
        same(what + ": the digest behind the refused call", x.digest(), before);
    }

    static synchronized void fail(String message) {
        wrong++;
        if (wrong <= 50) {
            System.out.println("wrong: " + message);
        }
    }

    static void end() {
        System.out.println(wrong == 0 ? "all answers are as due" : wrong + " answers are not as due");
        if (wrong != 0) {
            System.exit(1);
        }
    }
}

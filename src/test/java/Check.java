import java.util.NoSuchElementException;
import java.util.function.LongSupplier;

/** Counts answers that are not due; a test's main ends with end(). */
final class Check {
    private static int asked = 0;
    private static int wrong = 0;

    private Check() {
    }

    static void due(String what, long got, long want) {
        tell(got == want, what + " answered " + got + ", due is " + want);
    }

    static void due(String what, boolean got, boolean want) {
        tell(got == want, what + " answered " + got + ", due is " + want);
    }

    static void due(String what, double got, double want) {
        tell(got == want, what + " answered " + got + ", due is " + want);
    }

    static void isTrue(String what, boolean holds) {
        tell(holds, what);
    }

    /** A refused call throws exactly this and leaves all that the bank holds as it was. */
    static void refused(String what, Pegdraw bank, Class<? extends Exception> want, LongSupplier call) {
        String before = Held.by(bank);
        String got;
        try {
            got = "answered " + call.getAsLong();
        } catch (RuntimeException e) {
            got = e.getClass() == want ? null : "threw " + e;
        }
        tell(got == null, what + " " + got + ", due is " + want.getSimpleName());
        tell(Held.by(bank).equals(before), what + " changed the bank");
    }

    static void argument(String what, Pegdraw bank, LongSupplier call) {
        refused(what, bank, IllegalArgumentException.class, call);
    }

    static void index(String what, Pegdraw bank, LongSupplier call) {
        refused(what, bank, IndexOutOfBoundsException.class, call);
    }

    static void unsupported(String what, Pegdraw bank, LongSupplier call) {
        refused(what, bank, UnsupportedOperationException.class, call);
    }

    static void state(String what, Pegdraw bank, LongSupplier call) {
        refused(what, bank, IllegalStateException.class, call);
    }

    static void noSuch(String what, Pegdraw bank, LongSupplier call) {
        refused(what, bank, NoSuchElementException.class, call);
    }

    static void arithmetic(String what, Pegdraw bank, LongSupplier call) {
        refused(what, bank, ArithmeticException.class, call);
    }

    private static void tell(boolean right, String what) {
        asked++;
        if (!right) {
            wrong++;
            System.out.println("  wrong: " + what);
        }
    }

    static void end() {
        System.out.println("  " + asked + " checks, " + wrong + " wrong");
        if (wrong > 0) {
            System.exit(1);
        }
    }
}

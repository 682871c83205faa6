import java.util.function.LongSupplier;

/** Counts answers that are not due; a test's main ends with end(). */
final class Check {
    private static int asked = 0;
    private static int wrong = 0;

    private Check() {
    }

    static void due(String what, long got, long want) {
        tell(got == want, what + " answered " + got + ", due is " + want);
    }

    static void due(String what, boolean got, boolean want) {
        tell(got == want, what + " answered " + got + ", due is " + want);
    }

    static void due(String what, double got, double want) {
        tell(got == want, what + " answered " + got + ", due is " + want);
    }

    static void isTrue(String what, boolean holds) {
        tell(holds, what);
    }

    /** A refused call throws exactly this and leaves the checksum as it was. */
    static void refused(String what, Pegdraw bank, Class<? extends Exception> want, LongSupplier call) {
        long before = bank.checksum();
        String got;
        try {
            got = "answered " + call.getAsLong();
        } catch (RuntimeException e) {
            got = e.getClass() == want ? null : "threw " + e;
        }
        tell(got == null, what + " " + got + ", due is " + want.getSimpleName());
        tell(bank.checksum() == before, what + " changed the bank");
    }

    private static void tell(boolean right, String what) {
        asked++;
        if (!right) {
            wrong++;
            System.out.println("  wrong: " + what);
        }
    }

    static void end() {
        System.out.println("  " + asked + " checks, " + wrong + " wrong");
        if (wrong > 0) {
            System.exit(1);
        }
    }
}

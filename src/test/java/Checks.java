import java.util.function.LongSupplier;

/** Counts and tells what is not as it is due. */
final class Checks {
    private int wrong = 0;
    private int made = 0;

    void due(String what, long want, long got) {
        made++;
        if (got != want) {
            wrong++;
            System.out.println(what + ": answered " + got + ", due is " + want);
        }
    }

    void due(String what, double want, double got) {
        made++;
        if (got != want) {
            wrong++;
            System.out.println(what + ": answered " + got + ", due is " + want);
        }
    }

    void due(String what, boolean want, boolean got) {
        due(what, want ? 1L : 0L, got ? 1L : 0L);
    }

    void outOfBounds(String what, DatamarketDesk desk, LongSupplier call) {
        refused(what, IndexOutOfBoundsException.class, desk, call);
    }

    void badArgument(String what, DatamarketDesk desk, LongSupplier call) {
        refused(what, IllegalArgumentException.class, desk, call);
    }

    void badState(String what, DatamarketDesk desk, LongSupplier call) {
        refused(what, IllegalStateException.class, desk, call);
    }

    /** The call throws just that exception, and the desk is the same behind it. */
    private void refused(String what, Class<?> want, DatamarketDesk desk, LongSupplier call) {
        made++;
        long before = desk.digest();
        String got;
        try {
            got = "answered " + call.getAsLong();
        } catch (RuntimeException thrown) {
            got = thrown.getClass() == want ? "" : "threw " + thrown.getClass().getName();
        }
        if (!got.isEmpty()) {
            wrong++;
            System.out.println(what + ": " + got + ", due is " + want.getName());
        }
        if (desk.digest() != before) {
            wrong++;
            System.out.println(what + ": was refused, and changed something");
        }
    }

    boolean end() {
        System.out.println(made + " checks, " + wrong + " wrong");
        return wrong == 0;
    }
}

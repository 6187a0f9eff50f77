import java.util.IdentityHashMap;
import java.util.List;
import java.util.Map;

/** Houses made by the same calls, on one of which a call was refused. */
final class Twins {
    interface Calls {
        void on(ModHouse x);
    }

    /** What houses tell that were made so and had no further call. */
    private static final Map<Calls, List<String>> TOLD = new IdentityHashMap<>();

    private Twins() {
    }

    static ModHouse made(Calls calls) {
        ModHouse x = new ModHouse();
        calls.on(x);
        return x;
    }

    /** The call throws so, and nothing tells the house from one on which it was not called. */
    static void refused(Check c, String what, Class<? extends RuntimeException> due, Calls making, Calls call) {
        ModHouse x = made(making);
        c.fails(what, due, () -> call.on(x));
        c.is(what + " changed", difference(making, call), "none");
    }

    /** The first line in which it tells that the calls were tried; "none" if nothing does. */
    static String difference(Calls making, Calls tried) {
        List<String> due = TOLD.get(making);
        if (due == null) {
            due = Told.of(making);
            TOLD.put(making, due);
        }
        List<String> got = Told.of(x -> {
            making.on(x);
            attempt(tried, x);
        });
        for (int i = 0; i < due.size() && i < got.size(); i++) {
            if (!got.get(i).equals(due.get(i))) {
                return got.get(i) + " instead of " + due.get(i);
            }
        }
        return got.size() == due.size() ? "none" : "one tells more";
    }

    private static void attempt(Calls tried, ModHouse x) {
        try {
            tried.on(x);
        } catch (RuntimeException e) {
            // How it throws is checked ahead of this; here it matters what it leaves behind.
            return;
        }
    }

    static void noIndex(Check c, String what, Calls making, Calls call) {
        refused(c, what, IndexOutOfBoundsException.class, making, call);
    }

    static void noArgument(Check c, String what, Calls making, Calls call) {
        refused(c, what, IllegalArgumentException.class, making, call);
    }

    static void notAllowed(Check c, String what, Calls making, Calls call) {
        refused(c, what, UnsupportedOperationException.class, making, call);
    }

    static void noState(Check c, String what, Calls making, Calls call) {
        refused(c, what, IllegalStateException.class, making, call);
    }

    static void noElement(Check c, String what, Calls making, Calls call) {
        refused(c, what, java.util.NoSuchElementException.class, making, call);
    }
}

/** Houses made by the same calls, to one of which something more is done. */
final class Twins {
    interface Calls {
        void on(ModHouse x);
    }

    private Twins() {
    }

    static ModHouse made(Calls calls) {
        ModHouse x = new ModHouse();
        calls.on(x);
        return x;
    }

    /** The call throws so, and nothing tells the house from one on which it was not called. */
    static void refused(Check c, String what, Class<? extends RuntimeException> due, Calls making, Calls call) {
        ModHouse x = made(making);
        c.fails(what, due, () -> call.on(x));
        ModHouse y = made(making);
        c.fails(what, due, () -> call.on(y));
        c.is(what + " changed", difference(x, y, making), "none");
    }

    /** What tells two houses, which are used up by that, from those that are made so. */
    static String difference(ModHouse x, ModHouse y, Calls making) {
        String told = Told.difference(Told.of(x), Told.of(made(making)));
        return told.equals("none") ? Told.difference(Told.ofDays(y), Told.ofDays(made(making))) : told;
    }

    static void noIndex(Check c, String what, Calls making, Calls call) {
        refused(c, what, IndexOutOfBoundsException.class, making, call);
    }

    static void noArgument(Check c, String what, Calls making, Calls call) {
        refused(c, what, IllegalArgumentException.class, making, call);
    }

    static void notAllowed(Check c, String what, Calls making, Calls call) {
        refused(c, what, UnsupportedOperationException.class, making, call);
    }

    static void noState(Check c, String what, Calls making, Calls call) {
        refused(c, what, IllegalStateException.class, making, call);
    }

    static void noElement(Check c, String what, Calls making, Calls call) {
        refused(c, what, java.util.NoSuchElementException.class, making, call);
    }
}

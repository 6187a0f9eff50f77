/** Counts and prints the checks that fail. */
final class Check {
    interface Call {
        void run();
    }

    private int passed = 0;
    private int failed = 0;

    void is(String what, long got, long due) {
        judge(got == due, what + " answered " + got + ", due is " + due);
    }

    void is(String what, boolean got, boolean due) {
        judge(got == due, what + " answered " + got + ", due is " + due);
    }

    void is(String what, double got, double due) {
        judge(got == due, what + " answered " + got + ", due is " + due);
    }

    void is(String what, char got, char due) {
        judge(got == due, what + " answered " + got + ", due is " + due);
    }

    void is(String what, String got, String due) {
        judge(got.equals(due), what + " answered " + got + ", due is " + due);
    }

    void holds(String what, boolean isSo) {
        judge(isSo, what);
    }

    void fails(String what, Class<? extends RuntimeException> due, Call call) {
        String got = "nothing";
        try {
            call.run();
        } catch (RuntimeException e) {
            got = nameOf(e);
        }
        judge(got.equals(due.getName()), what + " threw " + got + ", due is " + due.getName());
    }

    /** Tells apart what the class throws and what the machine or the library throws in it, often of the same name. */
    static String nameOf(Throwable thrown) {
        StackTraceElement[] trace = thrown.getStackTrace();
        boolean isOwn = trace.length > 0 && trace[0].getClassName().startsWith("Mod");
        return isOwn ? thrown.getClass().getName() : thrown.getClass().getName() + " of the machine";
    }

    void noIndex(String what, Call call) {
        fails(what, IndexOutOfBoundsException.class, call);
    }

    void noArgument(String what, Call call) {
        fails(what, IllegalArgumentException.class, call);
    }

    void noState(String what, Call call) {
        fails(what, IllegalStateException.class, call);
    }

    void notAllowed(String what, Call call) {
        fails(what, UnsupportedOperationException.class, call);
    }

    void noElement(String what, Call call) {
        fails(what, java.util.NoSuchElementException.class, call);
    }

    private void judge(boolean isSo, String complaint) {
        if (isSo) {
            passed++;
        } else {
            failed++;
            StackTraceElement[] trace = new Throwable().getStackTrace();
            String place = "";
            for (StackTraceElement step : trace) {
                if (!step.getClassName().startsWith("Check")) {
                    place = step.getFileName() + ":" + step.getLineNumber() + ": ";
                    break;
                }
            }
            System.out.println(place + complaint);
        }
    }

    boolean close() {
        System.out.println(passed + " passed, " + failed + " failed");
        return failed == 0;
    }
}

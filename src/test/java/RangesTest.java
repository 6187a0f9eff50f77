/**
 * Each argument's range: its first and its last value are taken, those beside them and far from them are refused, and
 * change nothing. All on the house that Houses.busy makes.
 */
final class RangesTest {
    private static final Class<IllegalArgumentException> ARGUMENT = IllegalArgumentException.class;
    private static final Class<IndexOutOfBoundsException> INDEX = IndexOutOfBoundsException.class;
    private static final Twins.Calls BUSY = x -> Houses.busy(x);
    private static final int MOST = Integer.MAX_VALUE;

    private final Check c;

    private interface Taking {
        void with(ModHouse x, int value);
    }

    private RangesTest(Check c) {
        this.c = c;
    }

    static void run(Check c) {
        RangesTest test = new RangesTest(c);
        test.marks();
        test.versions();
        test.moderators();
        test.landsAndDays();
        test.classifiers();
        test.jurors();
        test.regimes();
        test.accounts();
        test.posts();
        test.rules();
        test.decisions();
        test.places();
        test.acts();
        test.numbersByRule();
    }

    /** Each end of the range is answered, whatever is beyond it throws. */
    private void range(String what, int from, int till, Class<? extends RuntimeException> due, Taking call) {
        taken(what, from, call);
        taken(what, till, call);
        refused(what, from, till, due, call);
    }

    /** Each number of a thing that there is does not throw that there is none, though it may throw something else. */
    private void numbers(String what, int first, int count, Class<? extends RuntimeException> due, Taking call) {
        for (int i = first; i < count; i++) {
            ModHouse x = Twins.made(BUSY);
            String thrown = "nothing";
            try {
                call.with(x, i);
            } catch (RuntimeException e) {
                thrown = Check.nameOf(e);
            }
            boolean isTaken = !thrown.equals(due.getName()) && !thrown.endsWith("of the machine");
            c.holds(what + " " + i + " threw " + thrown, isTaken);
        }
        refused(what, first, count - 1, due, call);
    }

    private void numbers(String what, int count, Taking call) {
        numbers(what, 0, count, INDEX, call);
    }

    private void taken(String what, int value, Taking call) {
        ModHouse x = Twins.made(BUSY);
        String thrown = "nothing";
        try {
            call.with(x, value);
        } catch (RuntimeException e) {
            thrown = Check.nameOf(e);
        }
        c.is(what + " " + value, thrown, "nothing");
    }

    private void refused(String what, int from, int till, Class<? extends RuntimeException> due, Taking call) {
                Twins.refused(c, what + " one too small", due, BUSY, x -> call.with(x, from - 1));
        Twins.refused(c, what + " least of all", due, BUSY, x -> call.with(x, Integer.MIN_VALUE));
        if (till < MOST) {
            Twins.refused(c, what + " one too large", due, BUSY, x -> call.with(x, till + 1));
            Twins.refused(c, what + " greatest of all", due, BUSY, x -> call.with(x, MOST));
        }
    }

    private void marks() {
        range("post of marks", 0, 255, ARGUMENT, (x, v) -> x.post(1, v));
        range("reply of marks", 0, 255, ARGUMENT, (x, v) -> x.reply(1, 1, v));
        range("edit by marks", 0, 255, ARGUMENT, (x, v) -> x.edit(3, v));
        range("addBuyer who avoids", 0, 255, ARGUMENT, (x, v) -> x.addBuyer(v));
        range("setLikeness", 0, 3, ARGUMENT, (x, v) -> x.setLikeness(v));
    }

    private void versions() {
        range("addRule that needs", 1, 255, ARGUMENT, (x, v) -> x.addRule(v, 0, 'l', 0));
        range("addRule that excepts", 0, 255, ARGUMENT, (x, v) -> x.addRule(1, v, 'l', 0));
        range("addRule of strikes", 0, 3, ARGUMENT, (x, v) -> x.addRule(1, 0, 'l', v));
        range("change so that it needs", 1, 255, ARGUMENT, (x, v) -> x.change(0, v, 0, 'l', 0));
        range("change so that it excepts", 0, 255, ARGUMENT, (x, v) -> x.change(0, 1, v, 'l', 0));
        range("change of strikes", 0, 3, ARGUMENT, (x, v) -> x.change(0, 1, 0, 'l', v));
    }

    private void moderators() {
        range("addModerator who sees", 0, 255, ARGUMENT, (x, v) -> x.addModerator(v, 1));
        range("addModerator of a limit", 1, 9, ARGUMENT, (x, v) -> x.addModerator(0, v));
        numbers("next of moderator", 3, (x, v) -> x.next(v));
        numbers("decide by moderator", 3, (x, v) -> x.decide(v, 1, 1));
        numbers("hear by moderator", 3, (x, v) -> x.hear(3, v, true));
    }

    private void landsAndDays() {
        range("order of land", 0, 2, ARGUMENT, (x, v) -> x.order(v, 1, 0));
        range("order in days", 0, 30, ARGUMENT, (x, v) -> x.order(0, 1, v));
        range("view in land", 0, 2, ARGUMENT, (x, v) -> x.view(1, v, 1));
        range("view by people", 1, 100000, ARGUMENT, (x, v) -> x.view(1, 0, v));
        range("feedSize of land", 0, 2, ARGUMENT, (x, v) -> x.feedSize(v));
        range("feedAt of land", 0, 2, ARGUMENT, (x, v) -> x.feedAt(v, 0));
        range("pass of days", 1, 60, ARGUMENT, (x, v) -> x.pass(v));
        numbers("obey of order", 2, (x, v) -> x.obey(v));
    }

    private void classifiers() {
        range("setScore of mark", 0, 7, ARGUMENT, (x, v) -> x.setScore(0, v, 0));
        range("setScore of score", -9, 9, ARGUMENT, (x, v) -> x.setScore(0, 0, v));
        range("setScore of mark without a classifier", 0, 7, ARGUMENT, (x, v) -> x.setScore(1, v, 0));
        range("setScore of score without a classifier", -9, 9, ARGUMENT, (x, v) -> x.setScore(1, 0, v));
        range("setThreshold", -72, 72, ARGUMENT, (x, v) -> x.setThreshold(0, v));
        numbers("setThreshold without a classifier", -72, 73, ARGUMENT, (x, v) -> x.setThreshold(1, v));
    }

    private void jurors() {
        range("jurorAt", 0, 2, ARGUMENT, (x, v) -> x.jurorAt(4, v));
        numbers("jurorAt without a jury", 0, 3, ARGUMENT, (x, v) -> x.jurorAt(3, v));
        numbers("vote of juror", 0, 3, ARGUMENT, (x, v) -> x.vote(4, v, true));
        numbers("vote of juror without a jury", 0, 3, ARGUMENT, (x, v) -> x.vote(3, v, false));
    }

    private void regimes() {
        range("regime from", 0, MOST, ARGUMENT, (x, v) -> x.regime(0, 'l', v, MOST));
        range("regime till", 5, MOST, ARGUMENT, (x, v) -> x.regime(0, 'l', 5, v));
        range("regime till, from 0", 0, MOST, ARGUMENT, (x, v) -> x.regime(0, 'l', 0, v));
    }

    private void accounts() {
        numbers("join of account", 8, (x, v) -> x.join(v, 0));
        numbers("join with account", 8, (x, v) -> x.join(0, v));
        numbers("weight of account", 8, (x, v) -> x.weight(v));
        numbers("post by account", 8, (x, v) -> x.post(v, 0));
        numbers("copy by account", 8, (x, v) -> x.copy(v, 1));
        numbers("reply by account", 8, (x, v) -> x.reply(v, 1, 0));
        numbers("report by account", 8, (x, v) -> x.report(v, 1, 0));
        numbers("strikes of account", 8, (x, v) -> x.strikes(v));
        numbers("isBanned of account", 8, (x, v) -> x.isBanned(v));
        numbers("appeal by account", 8, (x, v) -> x.appeal(6, v));
    }

    private void posts() {
        numbers("copy of post", 9, (x, v) -> x.copy(1, v));
        numbers("stateOf post", 9, (x, v) -> x.stateOf(v));
        numbers("breaks of post", 9, (x, v) -> x.breaks(v, 0));
        numbers("report of post", 9, (x, v) -> x.report(7, v, 0));
        numbers("pressure on post", 9, (x, v) -> x.pressure(v));
        numbers("decide on post", 9, (x, v) -> x.decide(0, v, -1));
        numbers("order on post", 9, (x, v) -> x.order(0, v, 0));
        numbers("view of post", 9, (x, v) -> x.view(v, 0, 1));
        numbers("lost of post", 9, (x, v) -> x.lost(v));
        numbers("reply to post", 9, (x, v) -> x.reply(1, v, 0));
        numbers("edit of post", 9, (x, v) -> x.edit(v, 0));
        numbers("isHidden of post", 9, (x, v) -> x.isHidden(v));
        numbers("score of post", 9, (x, v) -> x.score(0, v));
        numbers("alike to post", 9, (x, v) -> x.alike(v));
        numbers("beside of post", 9, (x, v) -> x.beside(v));
        numbers("seen of post", 9, (x, v) -> x.seen(v));
        numbers("owed of post", 9, (x, v) -> x.owed(v));
        numbers("heat of post", 9, (x, v) -> x.heat(v));
    }

    private void rules() {
        numbers("change of rule", 3, (x, v) -> x.change(v, 1, 0, 'l', 0));
        numbers("breaks of rule", 3, (x, v) -> x.breaks(0, v));
        numbers("report by rule", 3, (x, v) -> x.report(7, 1, v));
        numbers("decide by rule", -1, 3, INDEX, (x, v) -> x.decide(0, 1, v));
        numbers("setScore of rule", 3, (x, v) -> x.setScore(v, 0, 0));
        numbers("setThreshold of rule", 3, (x, v) -> x.setThreshold(v, 0));
        numbers("score of rule", 3, (x, v) -> x.score(v, 0));
        numbers("machineWeight of rule", 3, (x, v) -> x.machineWeight(v));
        numbers("regime of rule", 3, (x, v) -> x.regime(v, 'l', 0, 0));
        numbers("numberOf rule", 3, (x, v) -> x.numberOf(v, 'd'));
    }

    private void decisions() {
        numbers("stands of decision", 7, (x, v) -> x.stands(v));
        numbers("reach of decision", 7, (x, v) -> x.reach(v));
        numbers("takeBack of decision", 7, (x, v) -> x.takeBack(v));
        numbers("appeal against decision", 7, (x, v) -> x.appeal(v, 4));
        numbers("hear of decision", 7, (x, v) -> x.hear(v, 1, true));
        numbers("jury of decision", 7, (x, v) -> x.jury(v));
        numbers("jurorAt of decision", 7, (x, v) -> x.jurorAt(v, 0));
        numbers("vote on decision", 7, (x, v) -> x.vote(v, 1, true));
        numbers("spread of decision", 7, (x, v) -> x.spread(v));
    }

    private void places() {
        range("queueAt", 0, 1, INDEX, (x, v) -> x.queueAt(v));
        range("feedAt in land 0, where one is withheld", 0, 5, INDEX, (x, v) -> x.feedAt(0, v));
        range("feedAt in land 1", 0, 6, INDEX, (x, v) -> x.feedAt(1, v));
    }

    private void acts() {
        for (char act = 0; act < 600; act++) {
            ModHouse x = Twins.made(BUSY);
            char tried = act;
            if (act != 'l' && act != 'n' && act != 'r') {
                c.noArgument("addRule of act " + (int) act, () -> x.addRule(1, 0, tried, 0));
                c.noArgument("change to act " + (int) act, () -> x.change(0, 1, 0, tried, 0));
                c.noArgument("regime of act " + (int) act, () -> x.regime(0, tried, 0, 0));
            }
        }
        ModHouse last = Twins.made(BUSY);
        c.noArgument("addRule of the last sign", () -> last.addRule(1, 0, Character.MAX_VALUE, 0));
        c.noArgument("change to the last sign", () -> last.change(0, 1, 0, Character.MAX_VALUE, 0));
        c.noArgument("regime of the last sign", () -> last.regime(0, Character.MAX_VALUE, 0, 0));
        String acts = "lnr";
        for (int i = 0; i < 3; i++) {
            char act = acts.charAt(i);
            taken("addRule of act " + act, 1, (y, v) -> y.addRule(v, 0, act, 0));
            taken("change to act " + act, 1, (y, v) -> y.change(0, v, 0, act, 0));
            taken("regime of act " + act, 1, (y, v) -> y.regime(0, act, v, 1));
        }
    }

    private void numbersByRule() {
        String numbers = "dsobarwmt";
        for (char what = 0; what < 600; what++) {
            ModHouse x = Twins.made(BUSY);
            char tried = what;
            if (numbers.indexOf(what) < 0) {
                c.noArgument("numberOf " + (int) what, () -> x.numberOf(0, tried));
            } else {
                taken("numberOf " + what, 0, (y, v) -> y.numberOf(v, tried));
            }
        }
    }
}

/** Promises 8 to 10: rules, their versions, and what breaks them. */
final class RulesTest {
    private RulesTest() {
    }

    static void run(Check c) {
        additions(c);
        changes(c);
        sameDayChangesActAlready(c);
        breaches(c);
    }

    private static void additions(Check c) {
        ModHouse x = new ModHouse();
        c.noArgument("addRule needs 0", () -> x.addRule(0, 0, 'r', 0));
        c.noArgument("addRule needs 256", () -> x.addRule(256, 0, 'r', 0));
        c.noArgument("addRule needs -1", () -> x.addRule(-1, 0, 'r', 0));
        c.noArgument("addRule excepts -1", () -> x.addRule(1, -1, 'r', 0));
        c.noArgument("addRule excepts 256", () -> x.addRule(1, 256, 'r', 0));
        c.noArgument("addRule act x", () -> x.addRule(1, 0, 'x', 0));
        c.noArgument("addRule act -", () -> x.addRule(1, 0, '-', 0));
        c.noArgument("addRule act R", () -> x.addRule(1, 0, 'R', 0));
        c.noArgument("addRule strikes -1", () -> x.addRule(1, 0, 'r', -1));
        c.noArgument("addRule strikes 4", () -> x.addRule(1, 0, 'r', 4));
        c.is("addRule", x.addRule(1, 0, 'r', 0), 0);
        c.is("addRule", x.addRule(255, 255, 'n', 3), 1);
        c.is("addRule", x.addRule(1, 1, 'l', 1), 2);
        c.is("addRule", x.addRule(1, 0, 'l', 2), 3);
        c.is("addRule", x.addRule(1, 0, 'l', 2), 4);
        c.is("addRule", x.addRule(1, 0, 'l', 2), 5);
        c.noState("addRule beyond 6", () -> x.addRule(1, 0, 'l', 2));
        c.noArgument("addRule of no such act beyond 6", () -> x.addRule(1, 0, 'x', 2));
    }

    private static void changes(Check c) {
        ModHouse x = new ModHouse();
        x.addRule(1, 0, 'r', 0);
        c.is("change on the same day", x.change(0, 2, 0, 'n', 0), 1);
        x.pass(1);
        c.is("change on another day", x.change(0, 3, 0, 'n', 0), 2);
        c.is("change on it again", x.change(0, 4, 0, 'n', 0), 2);
        x.pass(3);
        c.is("change on a third day", x.change(0, 5, 0, 'n', 0), 3);
        c.noIndex("change(1)", () -> x.change(1, 1, 0, 'n', 0));
        c.noIndex("change(-1) of no such act", () -> x.change(-1, 1, 0, 'x', 0));
        c.noArgument("change needs 0", () -> x.change(0, 0, 0, 'n', 0));
        c.noArgument("change needs 256", () -> x.change(0, 256, 0, 'n', 0));
        c.noArgument("change excepts 256", () -> x.change(0, 1, 256, 'n', 0));
        c.noArgument("change excepts -1", () -> x.change(0, 1, -1, 'n', 0));
        c.noArgument("change act", () -> x.change(0, 1, 0, 'm', 0));
        c.noArgument("change strikes 4", () -> x.change(0, 1, 0, 'n', 4));
        c.noArgument("change strikes -1", () -> x.change(0, 1, 0, 'n', -1));
        c.is("change after those that threw", x.change(0, 5, 0, 'n', 0), 3);
    }

    private static void sameDayChangesActAlready(Check c) {
        ModHouse x = Houses.ruled(3, 'l', 1);
        x.post(0, 1);
        Houses.decided(x, 1, 0, 0);
        c.is("strikes(0)", x.strikes(0), 1);
        x.change(0, 2, 0, 'r', 3);
        c.is("stateOf(0) by the version that took the place", x.stateOf(0), 'r');
        c.is("strikes(0) by the version that took the place", x.strikes(0), 3);
        c.is("breaks(0, 0) by the version that took the place", x.breaks(0, 0), false);
        x.pass(1);
        x.change(0, 1, 0, 'n', 2);
        c.is("stateOf(0) by the version of its day", x.stateOf(0), 'r');
        c.is("strikes(0) by the version of its day", x.strikes(0), 3);
    }

    private static void breaches(Check c) {
        ModHouse x = Houses.withAccounts(1);
        x.post(0, 3);
        x.pass(1);
        x.post(0, 3);
        x.post(0, 7);
        x.post(0, 1);
        x.addRule(3, 4, 'r', 0);
        c.noElement("breaks(0, 0) of what was posted ahead of it", () -> x.breaks(0, 0));
        c.is("breaks(1, 0) of what was posted on its day", x.breaks(1, 0), true);
        c.is("breaks(2, 0) that is excepted", x.breaks(2, 0), false);
        c.is("breaks(3, 0) that lacks a mark", x.breaks(3, 0), false);
        x.pass(2);
        x.change(0, 1, 2, 'r', 0);
        x.post(0, 9);
        x.pass(2);
        x.change(0, 128, 0, 'r', 0);
        c.is("breaks(1, 0) by the version of its day", x.breaks(1, 0), true);
        c.is("breaks(4, 0) by the second version", x.breaks(4, 0), true);
        c.noIndex("breaks(5, 0)", () -> x.breaks(5, 0));
        c.noIndex("breaks(-1, 0)", () -> x.breaks(-1, 0));
        c.noIndex("breaks(0, 1)", () -> x.breaks(0, 1));
        c.noIndex("breaks(0, -1)", () -> x.breaks(0, -1));
    }
}

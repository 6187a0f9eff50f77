/** Promises 1 to 7: a new object, accounts, persons, posts, copies and how posts are. */
final class PeopleTest {
    private PeopleTest() {
    }

    static void run(Check c) {
        newObject(c);
        accounts(c);
        joins(c);
        joinsTellOfAllAccounts(c);
        weights(c);
        posts(c);
        copies(c);
        families(c);
        states(c);
    }

    private static void newObject(Check c) {
        ModHouse x = new ModHouse();
        c.is("queued()", x.queued(), 0);
        c.is("late()", x.late(), 0);
        c.is("feedSize(0)", x.feedSize(0), 0);
        c.is("isSound()", x.isSound(), true);
        c.noIndex("weight(0) without accounts", () -> x.weight(0));
        c.noIndex("stateOf(0) without posts", () -> x.stateOf(0));
        c.noIndex("machineWeight(0) without rules", () -> x.machineWeight(0));
        c.is("pass(1) from day 0", x.pass(1), 1);
    }

    private static void accounts(Check c) {
        ModHouse x = new ModHouse();
        for (int i = 0; i < 12; i++) {
            c.is("addAccount()", x.addAccount(), i);
        }
        c.noState("addAccount() beyond 12", () -> x.addAccount());
        c.is("weight(11)", x.weight(11), 10);
        c.noIndex("weight(12)", () -> x.weight(12));
    }

    private static void joins(Check c) {
        ModHouse x = Houses.withAccounts(6);
        c.is("join(0, 0)", x.join(0, 0), 1);
        c.is("join(4, 2)", x.join(4, 2), 2);
        c.is("join(2, 4) again", x.join(2, 4), 2);
        c.is("join(1, 5)", x.join(1, 5), 2);
        c.is("join(5, 4)", x.join(5, 4), 4);
        c.is("join(0, 1)", x.join(0, 1), 5);
        c.is("join(3, 3)", x.join(3, 3), 1);
        c.noIndex("join(6, 0)", () -> x.join(6, 0));
        c.noIndex("join(0, 6)", () -> x.join(0, 6));
        c.noIndex("join(-1, 0)", () -> x.join(-1, 0));
        c.noIndex("join(0, -1)", () -> x.join(0, -1));
    }

    private static void joinsTellOfAllAccounts(Check c) {
        ModHouse x = Houses.ruled(6, 'n', 2);
        x.post(0, 1);
        x.post(1, 1);
        Houses.decided(x, 2, 0, 0);
        Houses.decided(x, 2, 1, 0);
        c.is("isBanned(0) as a person of its own", x.isBanned(0), false);
        x.join(0, 1);
        c.is("strikes(1) of both accounts", x.strikes(1), 4);
        c.is("isBanned(0) of both accounts", x.isBanned(0), true);
        x.post(3, 0);
        x.report(4, 2, 0);
        x.join(4, 5);
        c.notAllowed("report by the other account of the reporter", () -> x.report(5, 2, 0));
        x.join(3, 4);
        c.is("pressure by one who is that of the post now", x.pressure(2), 10);
    }

    private static void weights(Check c) {
        ModHouse x = Houses.ruled(5, 'l', 0);
        x.post(0, 1);
        x.report(1, 0, 0);
        x.addRule(1, 0, 'l', 0);
        x.report(2, 0, 1);
        x.decide(0, 0, 0);
        c.is("weight of who was right", x.weight(1), 12);
        c.is("weight of who was wrong", x.weight(2), 7);
        x.join(1, 2);
        c.is("the lower weight is kept", x.weight(1), 7);
        c.is("the lower weight is kept, by the other account", x.weight(2), 7);
        x.join(4, 2);
        c.is("the lower weight is kept for the third", x.weight(4), 7);
        x.join(3, 0);
        c.is("weight of two who are 10", x.weight(3), 10);
        c.noIndex("weight(5)", () -> x.weight(5));
        c.noIndex("weight(-1)", () -> x.weight(-1));
    }

    private static void posts(Check c) {
        ModHouse x = Houses.ruled(3, 'n', 3);
        c.is("post(0, 0)", x.post(0, 0), 0);
        c.is("post(1, 255)", x.post(1, 255), 1);
        c.noIndex("post(3, 0)", () -> x.post(3, 0));
        c.noIndex("post(-1, 256) by no account first", () -> x.post(-1, 256));
        c.noArgument("post(0, 256)", () -> x.post(0, 256));
        c.noArgument("post(0, -1)", () -> x.post(0, -1));
        Houses.decided(x, 2, 1, 0);
        c.notAllowed("post by one who is banned", () -> x.post(1, 0));
        c.noArgument("post of no such marks by one who is banned", () -> x.post(1, 256));
        for (int i = 2; i < 50; i++) {
            c.is("post(0, 1)", x.post(0, 1), i);
        }
        c.noState("post beyond 50", () -> x.post(0, 1));
        c.notAllowed("post beyond 50 by one who is banned", () -> x.post(1, 1));
    }

    private static void copies(Check c) {
        ModHouse x = Houses.ruled(4, 'r', 3);
        x.post(0, 1);
        c.is("copy(1, 0)", x.copy(1, 0), 1);
        c.is("copy(1, 1)", x.copy(1, 1), 2);
        c.is("breaks(2, 0) with the same marks", x.breaks(2, 0), true);
        c.noIndex("copy(4, 0)", () -> x.copy(4, 0));
        c.noIndex("copy(-1, 0)", () -> x.copy(-1, 0));
        c.noIndex("copy(0, 3)", () -> x.copy(0, 3));
        c.noIndex("copy(0, -1)", () -> x.copy(0, -1));
        x.post(2, 1);
        Houses.decided(x, 3, 1, 0);
        c.notAllowed("copy by one who is banned", () -> x.copy(0, 3));
        c.notAllowed("copy of one that is removed", () -> x.copy(3, 2));
        c.is("copy of the same marks in another family", x.copy(3, 3), 4);
        while (x.alike(0) < 47) {
            x.post(3, 1);
        }
        c.noState("copy beyond 50", () -> x.copy(3, 3));
        c.notAllowed("copy of one that is removed, beyond 50", () -> x.copy(3, 0));
    }

    private static void families(Check c) {
        ModHouse x = Houses.ruled(4, 'n', 0);
        x.post(0, 1);
        x.copy(1, 0);
        x.copy(2, 1);
        x.post(3, 1);
        int d = Houses.decided(x, 3, 2, 0);
        c.is("reach over copies of copies", x.reach(d), 3);
        c.is("stateOf(0)", x.stateOf(0), 'n');
        c.is("stateOf(3) of another family", x.stateOf(3), '-');
        x.copy(3, 0);
        c.is("stateOf of a later copy", x.stateOf(4), 'n');
        c.is("reach with a later copy", x.reach(d), 4);
    }

    private static void states(Check c) {
        ModHouse x = Houses.ruled(4, 'l', 0);
        x.addRule(1, 0, 'n', 0);
        x.addRule(1, 0, 'r', 0);
        x.post(0, 1);
        c.is("stateOf(0) at first", x.stateOf(0), '-');
        int l = Houses.decided(x, 1, 0, 0);
        c.is("stateOf(0) labelled", x.stateOf(0), 'l');
        int n = Houses.decided(x, 1, 0, 1);
        c.is("stateOf(0) narrowed", x.stateOf(0), 'n');
        int r = Houses.decided(x, 1, 0, 2);
        c.is("stateOf(0) removed", x.stateOf(0), 'r');
        x.takeBack(n);
        c.is("stateOf(0) still removed", x.stateOf(0), 'r');
        x.takeBack(r);
        c.is("stateOf(0) labelled again", x.stateOf(0), 'l');
        x.takeBack(l);
        c.is("stateOf(0) by none", x.stateOf(0), '-');
        c.noIndex("stateOf(1)", () -> x.stateOf(1));
        c.noIndex("stateOf(-1)", () -> x.stateOf(-1));
    }
}

/** Promises 41 to 44: likeness, spreading and regimes. */
final class LikenessTest {
    private LikenessTest() {
    }

    static void run(Check c) {
        likeness(c);
        spreads(c);
        spreadsToThoseAlone(c);
        strikesOfSpreads(c);
        regimes(c);
        regimesThatAreRefused(c);
    }

    private static void likeness(Check c) {
        ModHouse x = Houses.withAccounts(2);
        c.is("setLikeness(0)", x.setLikeness(0), 0);
        x.post(0, 0x0F);
        x.copy(1, 0);
        x.post(0, 0x0F);
        x.post(0, 0x0E);
        x.post(0, 0x1E);
        x.post(0, 0x3E);
        x.post(0, 0x7E);
        c.is("alike(0) by the same marks", x.alike(0), 1);
        c.is("alike(2)", x.alike(2), 2);
        c.is("setLikeness(1)", x.setLikeness(1), 0);
        c.is("alike(0) by 1", x.alike(0), 2);
        c.is("setLikeness(3)", x.setLikeness(3), 1);
        c.is("alike(0) by 3", x.alike(0), 4);
        c.is("setLikeness(2)", x.setLikeness(2), 3);
        c.is("alike(0) by 2", x.alike(0), 3);
        c.noArgument("setLikeness(4)", () -> x.setLikeness(4));
        c.noArgument("setLikeness(-1)", () -> x.setLikeness(-1));
        c.is("setLikeness after those that threw", x.setLikeness(0), 2);
        c.noIndex("alike(7)", () -> x.alike(7));
        c.noIndex("alike(-1)", () -> x.alike(-1));
    }

    private static void spreads(Check c) {
        ModHouse x = Houses.ruled(4, 'n', 0);
        x.setLikeness(1);
        x.post(0, 1);
        x.post(1, 1);
        x.post(1, 3);
        x.post(1, 0);
        x.post(1, 7);
        int d = Houses.decided(x, 2, 0, 0);
        c.is("reach", x.reach(d), 1);
        c.is("spread: not to one that breaks nothing, nor to one too far", x.spread(d), 2);
        c.is("reach", x.reach(d), 3);
        c.is("stateOf(1)", x.stateOf(1), 'n');
        c.is("stateOf(2)", x.stateOf(2), 'n');
        c.is("stateOf(3)", x.stateOf(3), '-');
        c.is("stateOf(4)", x.stateOf(4), '-');
        c.notAllowed("spread again", () -> x.spread(d));
        c.is("appeal by one to whom it spread", x.appeal(d, 1), 13);
        c.is("takeBack", x.takeBack(d), 3);
        c.is("stateOf(1)", x.stateOf(1), '-');
        x.report(2, 3, 0);
        int none = x.decide(0, 3, -1);
        c.notAllowed("spread of one by none", () -> x.spread(none));
        x.post(0, 128);
        int e = Houses.decided(x, 2, 5, 0);
        c.is("spread to none", x.spread(e), 0);
        c.notAllowed("spread again to none", () -> x.spread(e));
        x.takeBack(e);
        c.notAllowed("spread of what was taken back", () -> x.spread(e));
        x.edit(1, 128);
        int f = Houses.decided(x, 3, 5, 0);
        c.is("spread to none that breaks the rule", x.spread(f), 0);
        ModHouse y = Houses.ruled(2, 'n', 0);
        y.post(0, 1);
        y.post(0, 1);
        c.is("spread to the first post", y.spread(Houses.decided(y, 1, 1, 0)), 1);
        c.is("stateOf(0)", y.stateOf(0), 'n');
        c.noIndex("spread(4)", () -> x.spread(4));
        c.noIndex("spread(-1)", () -> x.spread(-1));
    }

    private static void spreadsToThoseAlone(Check c) {
        ModHouse x = Houses.withAccounts(4);
        x.addModerator(255, 9);
        x.post(1, 1);
        x.pass(1);
        x.addRule(1, 0, 'l', 0);
        x.post(0, 1);
        x.post(1, 1);
        x.copy(2, 2);
        x.edit(3, 1);
        int d = Houses.decided(x, 3, 1, 0);
        x.pass(1);
        x.change(0, 1, 2, 'r', 0);
        x.post(2, 1);
        x.setLikeness(1);
        x.post(2, 3);
        c.is("spread: to 2, 3 and 4, not to 0 or 5", x.spread(d), 3);
        c.is("stateOf(0), which it does not bind", x.stateOf(0), '-');
        c.is("stateOf(2) by the version that binds it", x.stateOf(2), 'l');
        c.is("stateOf(4) by the version that binds it", x.stateOf(4), 'r');
        c.is("stateOf(5), which is excepted", x.stateOf(5), '-');
        c.is("copy of one to which it spread", x.copy(3, 2), 6);
        c.is("stateOf of that copy", x.stateOf(6), '-');
        c.is("copy of the one decided", x.copy(3, 1), 7);
        c.is("stateOf of that copy", x.stateOf(7), 'r');
        c.is("post of the same marks later", x.post(3, 1), 8);
        c.is("stateOf of that post", x.stateOf(8), '-');
        c.notAllowed("edit of one to which it spread", () -> x.edit(3, 1));
        c.is("isSound()", x.isSound(), true);
    }

    private static void strikesOfSpreads(Check c) {
        ModHouse x = Houses.ruled(4, 'n', 1);
        x.post(0, 1);
        x.post(1, 1);
        int d = Houses.decided(x, 2, 0, 0);
        x.pass(20);
        x.spread(d);
        c.noState("appeal by the days from the decision", () -> x.appeal(d, 1));
        Houses.pass(x, 70);
        c.is("strikes(0) 90 days behind the decision", x.strikes(0), 0);
        c.is("strikes(1) 70 days behind the spreading", x.strikes(1), 1);
        x.pass(19);
        c.is("strikes(1) 89 days behind the spreading", x.strikes(1), 1);
        x.pass(1);
        c.is("strikes(1) 90 days behind the spreading", x.strikes(1), 0);
        c.is("stateOf(1)", x.stateOf(1), 'n');
    }

    private static void regimes(Check c) {
        ModHouse x = Houses.ruled(3, 'n', 1);
        for (int i = 0; i < 4; i++) {
            x.post(0, i == 2 ? 3 : 1);
            x.pass(1);
        }
        for (int i = 0; i < 4; i++) {
            Houses.decided(x, 1, i, 0);
        }
        c.is("regime of a lesser act", x.regime(0, 'l', 0, 9), 1);
        c.is("stateOf(1) by the worse one", x.stateOf(1), 'n');
        c.is("regime of a worse act for days gone by", x.regime(0, 'r', 1, 2), 2);
        c.is("stateOf(0) ahead of it", x.stateOf(0), 'n');
        c.is("stateOf(1) on the first day", x.stateOf(1), 'r');
        c.is("stateOf(2) on the last day", x.stateOf(2), 'r');
        c.is("stateOf(3) behind it", x.stateOf(3), 'n');
        c.is("strikes are kept", x.strikes(0), 4);
        x.addRule(1, 0, 'l', 0);
        x.post(1, 1);
        int other = Houses.decided(x, 2, 4, 1);
        c.is("stateOf(4) by the other rule", x.stateOf(4), 'l');
        c.is("regime of the other rule", x.regime(1, 'n', 4, 4), 3);
        c.is("stateOf(4) under its regime", x.stateOf(4), 'n');
        c.is("view under its regime", x.view(4, 0, 10), 5);
        x.takeBack(other);
        c.is("owed(4) by what it lost under its regime", x.owed(4), 5);
    }

    private static void regimesThatAreRefused(Check c) {
        ModHouse x = Houses.ruled(2, 'n', 0);
        c.noIndex("regime(1)", () -> x.regime(1, 'r', 0, 0));
        c.noIndex("regime(-1) of no such act", () -> x.regime(-1, 'x', 0, 0));
        c.noArgument("regime of no such act", () -> x.regime(0, '-', 0, 0));
        c.noArgument("regime with the last day ahead of the first", () -> x.regime(0, 'r', 3, 2));
        c.noArgument("regime from a day below 0", () -> x.regime(0, 'r', -1, 2));
        c.is("regime of one day", x.regime(0, 'r', 3, 3), 1);
        x.addRule(1, 0, 'l', 0);
        for (int i = 2; i <= 6; i++) {
            c.is("regime of either rule", x.regime(i % 2, 'l', 0, 2147483647), i);
        }
        c.noState("regime beyond 6", () -> x.regime(0, 'r', 0, 0));
        c.noArgument("regime of no such days beyond 6", () -> x.regime(0, 'r', 1, 0));
    }
}

/** Promises 15 to 22: moderators, decisions, strikes and bans. */
final class DecisionsTest {
    private DecisionsTest() {
    }

    static void run(Check c) {
        moderators(c);
        nextPosts(c);
        decisions(c);
        decisionsThatAreRefused(c);
        weightsByDecisions(c);
        precedents(c);
        fortyDecisions(c);
        reaches(c);
        takenBack(c);
        strikesThatAge(c);
        bans(c);
    }

    private static void moderators(Check c) {
        ModHouse x = new ModHouse();
        c.noArgument("addModerator(-1, 1)", () -> x.addModerator(-1, 1));
        c.noArgument("addModerator(256, 1)", () -> x.addModerator(256, 1));
        c.noArgument("addModerator(0, 0)", () -> x.addModerator(0, 0));
        c.noArgument("addModerator(0, 10)", () -> x.addModerator(0, 10));
        c.is("addModerator(0, 1)", x.addModerator(0, 1), 0);
        c.is("addModerator(255, 9)", x.addModerator(255, 9), 1);
        c.is("addModerator", x.addModerator(1, 2), 2);
        c.is("addModerator", x.addModerator(1, 2), 3);
        c.noState("addModerator beyond 4", () -> x.addModerator(1, 2));
        c.noArgument("addModerator out of range beyond 4", () -> x.addModerator(1, 10));
    }

    private static void nextPosts(Check c) {
        ModHouse x = Houses.withAccounts(3);
        x.addRule(1, 0, 'r', 0);
        x.addModerator(1, 2);
        x.addModerator(3, 1);
        x.addModerator(0, 9);
        x.post(0, 1);
        x.post(0, 3);
        x.post(0, 1);
        c.noElement("next of an empty queue", () -> x.next(0));
        x.report(1, 0, 0);
        x.report(1, 1, 0);
        x.report(2, 1, 0);
        x.report(1, 2, 0);
        c.is("next(0) may not see the first one", x.next(0), 0);
        c.is("next(1) sees all", x.next(1), 1);
        c.noElement("next(2) sees none", () -> x.next(2));
        x.decide(0, 0, -1);
        c.is("next(0) ahead of the limit", x.next(0), 2);
        x.decide(1, 1, -1);
        c.noElement("next(1) at the limit", () -> x.next(1));
        x.pass(1);
        c.is("next(1) on the next day", x.next(1), 2);
        c.noIndex("next(3)", () -> x.next(3));
        c.noIndex("next(-1)", () -> x.next(-1));
    }

    private static void decisions(Check c) {
        ModHouse x = Houses.ruled(4, 'r', 0);
        x.post(0, 1);
        x.post(0, 0);
        x.post(0, 1);
        x.report(1, 0, 0);
        x.report(1, 1, 0);
        x.report(1, 2, 0);
        c.is("decide by a rule", x.decide(0, 0, 0), 0);
        c.is("decide by a rule that is not broken", x.decide(1, 1, 0), 1);
        c.is("decide by none", x.decide(1, 2, -1), 2);
        c.is("stands(0)", x.stands(0), true);
        c.is("stands(1)", x.stands(1), true);
        c.is("stands(2) by none", x.stands(2), false);
        c.is("stateOf(1)", x.stateOf(1), 'r');
        c.is("stateOf(2)", x.stateOf(2), '-');
        c.is("reach(2) by none", x.reach(2), 0);
        c.noIndex("stands(3)", () -> x.stands(3));
        c.noIndex("stands(-1)", () -> x.stands(-1));
    }

    private static void decisionsThatAreRefused(Check c) {
        ModHouse x = Houses.withAccounts(4);
        x.addModerator(1, 1);
        x.addModerator(255, 9);
        x.addRule(1, 0, 'n', 0);
        x.post(0, 1);
        x.post(0, 3);
        x.pass(1);
        x.addRule(1, 0, 'n', 0);
        x.report(1, 0, 1);
        x.report(1, 1, 0);
        c.noIndex("decide(2, 0, 0)", () -> x.decide(2, 0, 0));
        c.noIndex("decide(-1, 0, 0)", () -> x.decide(-1, 0, 0));
        c.noIndex("decide(0, 2, 0)", () -> x.decide(0, 2, 0));
        c.noIndex("decide(0, -1, 0)", () -> x.decide(0, -1, 0));
        c.noIndex("decide(0, 0, 2)", () -> x.decide(0, 0, 2));
        c.noIndex("decide(0, 0, -2)", () -> x.decide(0, 0, -2));
        c.noArgument("decide by a rule that does not bind", () -> x.decide(0, 0, 1));
        c.noArgument("decide so on what may not be seen", () -> x.decide(0, 1, 1));
        c.notAllowed("decide on what may not be seen", () -> x.decide(0, 1, 0));
        c.is("decide", x.decide(0, 0, 0), 0);
        c.notAllowed("decide on what is not in the queue", () -> x.decide(1, 0, 0));
        x.report(2, 0, 0);
        c.notAllowed("decide behind the limit", () -> x.decide(0, 0, 0));
        x.pass(1);
        c.is("decide on the next day", x.decide(0, 0, -1), 1);
        c.is("decide", x.decide(1, 1, 0), 2);
    }

    private static void weightsByDecisions(Check c) {
        ModHouse x = Houses.ruled(8, 'l', 0);
        x.addRule(1, 0, 'l', 0);
        for (int i = 0; i < 8; i++) {
            x.post(0, 1);
        }
        x.report(1, 0, 0);
        x.report(1, 0, 1);
        x.decide(0, 0, 1);
        c.is("3 less, then 2 greater", x.weight(1), 9);
        for (int i = 1; i < 7; i++) {
            Houses.decided(x, 2, i, 0);
        }
        c.is("at most 20", x.weight(2), 20);
        x.report(2, 7, 1);
        x.report(2, 7, 0);
        x.decide(1, 7, 0);
        c.is("3 less than 20, then 2 greater", x.weight(2), 19);
        ModHouse y = Houses.ruled(3, 'l', 0);
        y.addRule(1, 0, 'l', 0);
        for (int i = 0; i < 5; i++) {
            y.post(0, 1);
            y.report(1, i, 0);
            y.decide(0, i, -1);
            c.is("3 less by none, at least 1", y.weight(1), Math.max(1, 10 - 3 * (i + 1)));
        }
        y.post(0, 1);
        y.report(1, 5, 1);
        y.report(1, 5, 0);
        y.decide(0, 5, 0);
        c.is("in the order in which they came", y.weight(1), 3);
        y.post(0, 1);
        y.report(1, 6, 0);
        y.report(2, 6, 0);
        y.join(1, 2);
        y.decide(0, 6, 0);
        c.is("each report of one person now", y.weight(2), 7);
    }

    private static void precedents(Check c) {
        ModHouse x = Houses.ruled(4, 'l', 0);
        x.addRule(1, 0, 'l', 0);
        x.post(0, 1);
        int d = Houses.decided(x, 1, 0, 0);
        x.appeal(d, 0);
        x.hear(d, 1, true);
        x.report(2, 0, 0);
        c.notAllowed("decide by precedent", () -> x.decide(0, 0, 0));
        c.is("decide by another rule", x.decide(0, 0, 1), 1);
        x.post(0, 1);
        x.report(1, 1, 0);
        c.notAllowed("decide on another one with just those marks", () -> x.decide(1, 1, 0));
        x.post(0, 3);
        x.report(1, 2, 0);
        c.is("decide on one with more marks", x.decide(1, 2, 0), 2);
        x.takeBack(2);
        x.report(2, 2, 0);
        c.is("no precedent by what was taken back", x.decide(1, 2, 0), 3);
        x.appeal(3, 0);
        x.hear(3, 0, false);
        x.report(3, 2, 0);
        c.is("no precedent by what was upheld", x.decide(1, 2, 0), 4);
    }

    private static void fortyDecisions(Check c) {
        ModHouse x = Houses.ruled(2, 'l', 0);
        for (int i = 0; i < 41; i++) {
            x.post(0, 1);
            x.report(1, i, 0);
            if (i % 8 == 7) {
                x.pass(1);
            }
            if (i < 40) {
                c.is("decide", x.decide(0, i, 0), i);
            }
        }
        c.noState("decide beyond 40", () -> x.decide(0, 40, 0));
        c.notAllowed("decide on what is not in the queue beyond 40", () -> x.decide(0, 0, 0));
        c.is("weight(1) is kept", x.weight(1), 20);
        c.is("queued() is kept", x.queued(), 1);
    }

    private static void reaches(Check c) {
        ModHouse x = Houses.withAccounts(5);
        x.addModerator(255, 9);
        x.post(0, 1);
        x.pass(1);
        x.addRule(1, 0, 'r', 0);
        x.copy(1, 0);
        int d = Houses.decided(x, 2, 1, 0);
        c.is("reach without what it does not bind", x.reach(d), 1);
        c.is("stateOf(0) that is not bound", x.stateOf(0), '-');
        x.copy(3, 0);
        c.is("stateOf of a copy of that, which is bound", x.stateOf(2), 'r');
        c.is("reach with the copy", x.reach(d), 2);
        x.pass(1);
        x.change(0, 2, 1, 'n', 0);
        x.copy(3, 0);
        c.is("stateOf by the version that binds it, not broken", x.stateOf(3), 'n');
        c.is("reach", x.reach(d), 3);
        x.edit(0, 1);
        c.is("stateOf of what is edited, a family of its own", x.stateOf(0), '-');
        c.is("reach without it", x.reach(d), 3);
        x.takeBack(d);
        c.is("reach of what does not stand", x.reach(d), 0);
        c.noIndex("reach(1)", () -> x.reach(1));
        c.noIndex("reach(-1)", () -> x.reach(-1));
    }

    private static void takenBack(Check c) {
        ModHouse x = Houses.ruled(4, 'r', 2);
        x.post(0, 1);
        x.copy(1, 0);
        int d = Houses.decided(x, 2, 0, 0);
        x.appeal(d, 0);
        c.is("takeBack", x.takeBack(d), 2);
        c.is("stands", x.stands(d), false);
        c.is("stateOf(0)", x.stateOf(0), '-');
        c.is("strikes(1)", x.strikes(1), 0);
        c.is("weight(2) is kept", x.weight(2), 12);
        c.notAllowed("hear an appeal that was closed", () -> x.hear(d, 1, true));
        c.notAllowed("jury of an appeal that was closed", () -> x.jury(d));
        c.notAllowed("takeBack again", () -> x.takeBack(d));
        c.notAllowed("appeal against what was taken back", () -> x.appeal(d, 1));
        x.report(3, 0, 0);
        int none = x.decide(0, 0, -1);
        c.notAllowed("takeBack of one by none", () -> x.takeBack(none));
        c.noIndex("takeBack(2)", () -> x.takeBack(2));
        c.noIndex("takeBack(-1)", () -> x.takeBack(-1));
    }

    private static void strikesThatAge(Check c) {
        ModHouse x = Houses.ruled(4, 'n', 2);
        x.post(0, 1);
        x.copy(0, 0);
        x.pass(5);
        int d = Houses.decided(x, 2, 0, 0);
        c.is("strikes(0) for each post", x.strikes(0), 4);
        Houses.pass(x, 40);
        x.copy(1, 0);
        c.is("strikes(1) for a later copy", x.strikes(1), 2);
        Houses.pass(x, 49);
        c.is("strikes(0) on the 89th day behind it", x.strikes(0), 4);
        x.pass(1);
        c.is("strikes(0) on the 90th day behind it", x.strikes(0), 0);
        c.is("strikes(1) from the day of its post", x.strikes(1), 2);
        Houses.pass(x, 39);
        c.is("strikes(1) on the 89th day", x.strikes(1), 2);
        x.pass(1);
        c.is("strikes(1) on the 90th day", x.strikes(1), 0);
        x.copy(3, 0);
        c.is("strikes(3) by a decision of old", x.strikes(3), 2);
        x.takeBack(d);
        c.is("strikes(3) when it does not stand", x.strikes(3), 0);
        c.noIndex("strikes(4)", () -> x.strikes(4));
        c.noIndex("strikes(-1)", () -> x.strikes(-1));
    }

    private static void bans(Check c) {
        ModHouse x = Houses.ruled(4, 'l', 2);
        x.addRule(1, 0, 'l', 1);
        x.post(0, 1);
        x.post(1, 0);
        Houses.decided(x, 2, 0, 0);
        c.is("isBanned with 2 strikes", x.isBanned(0), false);
        int d = Houses.decided(x, 2, 0, 1);
        c.is("strikes by each decision", x.strikes(0), 3);
        c.is("isBanned with 3 strikes", x.isBanned(0), true);
        c.notAllowed("post by one who is banned", () -> x.post(0, 0));
        c.notAllowed("copy by one who is banned", () -> x.copy(0, 1));
        c.notAllowed("reply by one who is banned", () -> x.reply(0, 1, 0));
        c.notAllowed("report by one who is banned", () -> x.report(0, 1, 0));
        x.takeBack(d);
        c.is("isBanned when one stands no more", x.isBanned(0), false);
        c.noIndex("isBanned(4)", () -> x.isBanned(4));
        c.noIndex("isBanned(-1)", () -> x.isBanned(-1));
    }
}

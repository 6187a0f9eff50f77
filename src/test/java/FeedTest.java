/** Promises 45 to 51: buyers, what was seen and is owed, heat and the feed. */
final class FeedTest {
    private FeedTest() {
    }

    static void run(Check c) {
        buyers(c);
        besides(c);
        seenAndOwed(c);
        heats(c);
        heatOfAWeek(c);
        feeds(c);
        feedsWithoutWhatIsNotShown(c);
    }

    private static void buyers(Check c) {
        ModHouse x = new ModHouse();
        c.noArgument("addBuyer(-1)", () -> x.addBuyer(-1));
        c.noArgument("addBuyer(256)", () -> x.addBuyer(256));
        c.is("addBuyer(0)", x.addBuyer(0), 1);
        c.is("addBuyer(255)", x.addBuyer(255), 2);
        c.is("addBuyer(1)", x.addBuyer(1), 3);
        c.is("addBuyer(1)", x.addBuyer(1), 4);
        c.noState("addBuyer beyond 4", () -> x.addBuyer(1));
        c.noArgument("addBuyer(256) beyond 4", () -> x.addBuyer(256));
    }

    private static void besides(Check c) {
        ModHouse x = Houses.ruled(5, 'l', 0);
        x.addRule(2, 0, 'r', 0);
        x.post(0, 1);
        c.is("beside without buyers", x.beside(0), 0);
        x.addBuyer(0);
        x.addBuyer(1);
        x.addBuyer(6);
        c.is("beside(0)", x.beside(0), 2);
        x.post(0, 5);
        c.is("beside(1)", x.beside(1), 1);
        x.report(1, 0, 0);
        c.is("beside(0) under less pressure", x.beside(0), 2);
        x.report(2, 0, 0);
        c.is("beside(0) under a pressure of 20", x.beside(0), 0);
        int d = x.decide(0, 0, 0);
        c.is("beside(0) that is labelled", x.beside(0), 0);
        x.takeBack(d);
        c.is("beside(0) again", x.beside(0), 2);
        x.reply(3, 0, 0);
        c.is("beside(2)", x.beside(2), 3);
        int e = Houses.decided(x, 4, 0, 1);
        c.is("beside(0) that is removed", x.beside(0), 0);
        c.is("beside(2) that is hidden", x.beside(2), 0);
        x.takeBack(e);
        x.report(3, 0, 0);
        x.decide(0, 0, -1);
        x.report(4, 1, 0);
        x.report(3, 1, 0);
        c.is("pressure(1)", x.pressure(1), 19);
        c.is("beside(1) under a pressure of 19", x.beside(1), 1);
        c.noIndex("beside(3)", () -> x.beside(3));
        c.noIndex("beside(-1)", () -> x.beside(-1));
    }

    private static void seenAndOwed(Check c) {
        ModHouse x = Houses.ruled(3, 'r', 0);
        x.post(0, 1);
        x.copy(1, 0);
        c.is("seen(0) at first", x.seen(0), 0);
        x.view(0, 0, 100);
        x.pass(30);
        x.view(0, 1, 10);
        c.is("seen(0) on all days", x.seen(0), 110);
        int d = Houses.decided(x, 2, 0, 0);
        x.view(0, 0, 20);
        x.view(1, 0, 7);
        c.is("seen(0) without what was lost", x.seen(0), 110);
        x.takeBack(d);
        c.is("owed(0)", x.owed(0), 20);
        c.is("owed(1) of a copy", x.owed(1), 7);
        x.view(1, 2, 3);
        c.is("owed(1)", x.owed(1), 4);
        for (int i = 0; i < 300; i++) {
            x.view(0, 0, 100000);
        }
        c.is("seen(0) of many", x.seen(0), 30000110L);
        c.noIndex("seen(2)", () -> x.seen(2));
        c.noIndex("seen(-1)", () -> x.seen(-1));
        c.noIndex("owed(2)", () -> x.owed(2));
        c.noIndex("owed(-1)", () -> x.owed(-1));
    }

    private static void heats(Check c) {
        ModHouse x = Houses.ruled(4, 'n', 0);
        x.addRule(1, 0, 'r', 0);
        x.post(0, 1);
        c.is("heat(0) at first", x.heat(0), 0);
        x.report(1, 0, 0);
        c.is("heat(0) under pressure", x.heat(0), -10);
        x.view(0, 0, 31);
        c.is("heat(0) with views", x.heat(0), 21);
        x.decide(0, 0, 0);
        c.is("heat(0) narrowed: half of 31", x.heat(0), 15);
        int r = Houses.decided(x, 1, 0, 1);
        c.is("heat(0) removed: all of 31", x.heat(0), 31);
        x.view(0, 0, 9);
        x.takeBack(r);
        x.report(2, 0, 0);
        c.is("heat(0): half of 31, 9 owed, less 10", x.heat(0), 14);
        c.noIndex("heat(1)", () -> x.heat(1));
        c.noIndex("heat(-1)", () -> x.heat(-1));
    }

    private static void heatOfAWeek(Check c) {
        ModHouse x = Houses.withAccounts(1);
        x.post(0, 0);
        x.view(0, 0, 1000);
        x.pass(1);
        x.view(0, 0, 100);
        x.pass(5);
        x.view(0, 0, 10);
        c.is("heat(0) with the day 6 days ahead", x.heat(0), 1110);
        x.pass(1);
        x.view(0, 0, 1);
        c.is("heat(0) without the day 7 days ahead", x.heat(0), 111);
        x.pass(6);
        c.is("heat(0) of the last view", x.heat(0), 1);
        x.view(0, 0, 5);
        x.pass(60);
        c.is("heat(0) a long time later", x.heat(0), 0);
        x.view(0, 0, 2);
        x.pass(7);
        c.is("heat(0) a week later", x.heat(0), 0);
    }

    private static void feeds(Check c) {
        ModHouse x = Houses.withAccounts(3);
        x.addRule(1, 0, 'r', 0);
        c.noIndex("feedAt(0, 0) of none", () -> x.feedAt(0, 0));
        for (int i = 0; i < 5; i++) {
            x.post(0, 1);
        }
        x.view(3, 0, 9);
        x.view(1, 2, 4);
        x.report(1, 0, 0);
        c.is("feedSize(1)", x.feedSize(1), 5);
        c.is("feedAt(1, 0)", x.feedAt(1, 0), 3);
        c.is("feedAt(1, 1)", x.feedAt(1, 1), 1);
        c.is("feedAt(1, 2) by number", x.feedAt(1, 2), 2);
        c.is("feedAt(1, 3) by number", x.feedAt(1, 3), 4);
        c.is("feedAt(1, 4) below 0", x.feedAt(1, 4), 0);
        x.view(0, 0, 30);
        c.is("feedAt(1, 0) of the first post", x.feedAt(1, 0), 0);
        c.is("feedAt(1, 1) behind it", x.feedAt(1, 1), 3);
        c.is("feedAt(1, 4) behind all", x.feedAt(1, 4), 4);
        c.noIndex("feedAt(1, 5)", () -> x.feedAt(1, 5));
        c.noIndex("feedAt(1, -1)", () -> x.feedAt(1, -1));
        c.noArgument("feedAt(3, 9)", () -> x.feedAt(3, 9));
        c.noArgument("feedAt(-1, 0)", () -> x.feedAt(-1, 0));
        c.noArgument("feedSize(3)", () -> x.feedSize(3));
        c.noArgument("feedSize(-1)", () -> x.feedSize(-1));
    }

    private static void feedsWithoutWhatIsNotShown(Check c) {
        ModHouse x = Houses.ruled(3, 'r', 0);
        x.addRule(2, 0, 'n', 0);
        x.post(0, 1);
        x.reply(1, 0, 0);
        x.post(0, 2);
        x.post(0, 4);
        x.order(1, 3, 0);
        x.view(2, 0, 9);
        x.view(3, 0, 5);
        c.is("feedSize(1)", x.feedSize(1), 4);
        x.obey(0);
        c.is("feedSize(1) without one withheld", x.feedSize(1), 3);
        c.is("feedSize(0) of another land", x.feedSize(0), 4);
        Houses.decided(x, 2, 0, 0);
        c.is("feedSize(0) without one removed and one hidden", x.feedSize(0), 2);
        c.is("feedSize(1)", x.feedSize(1), 1);
        c.is("feedAt(0, 0)", x.feedAt(0, 0), 2);
        Houses.decided(x, 2, 2, 1);
        c.is("feedAt(0, 0) when one is narrowed", x.feedAt(0, 0), 3);
        c.is("feedAt(0, 1) when one is narrowed", x.feedAt(0, 1), 2);
        c.noIndex("feedAt(1, 1)", () -> x.feedAt(1, 1));
    }
}

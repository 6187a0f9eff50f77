/** Promises 28 to 33: orders of lands, views, what is lost, and days. */
final class LandsTest {
    private LandsTest() {
    }

    static void run(Check c) {
        orders(c);
        obeyed(c);
        lateOrders(c);
        views(c);
        viewsUnderDecisions(c);
        viewsOfHiddenPosts(c);
        amends(c);
        days(c);
    }

    private static void orders(Check c) {
        ModHouse x = Houses.withAccounts(1);
        x.post(0, 0);
        c.noArgument("order(3, 0, 0)", () -> x.order(3, 0, 0));
        c.noArgument("order(-1, 9, 0) of no such post", () -> x.order(-1, 9, 0));
        c.noArgument("order(0, 0, -1)", () -> x.order(0, 0, -1));
        c.noArgument("order(0, 0, 31)", () -> x.order(0, 0, 31));
        c.noIndex("order(0, 1, 0)", () -> x.order(0, 1, 0));
        c.noIndex("order(0, -1, 0)", () -> x.order(0, -1, 0));
        for (int i = 0; i < 20; i++) {
            c.is("order", x.order(i % 3, 0, 30), i);
        }
        c.noState("order beyond 20", () -> x.order(0, 0, 0));
        c.noIndex("order of no such post beyond 20", () -> x.order(0, 1, 0));
    }

    private static void obeyed(Check c) {
        ModHouse x = Houses.withAccounts(1);
        x.post(0, 0);
        x.post(0, 0);
        x.order(1, 0, 2);
        x.order(2, 0, 0);
        x.order(1, 0, 30);
        c.is("view in the land ahead of obeying", x.view(0, 1, 10), 10);
        x.pass(2);
        c.is("obey on the last day", x.obey(0), 0);
        c.is("view in the land", x.view(0, 1, 10), 0);
        c.is("view in another land", x.view(0, 2, 10), 10);
        c.is("view of another post", x.view(1, 1, 10), 10);
        c.is("obey 2 days late", x.obey(1), 2);
        c.is("view in the other land", x.view(0, 2, 10), 0);
        c.is("view in the first land still", x.view(0, 1, 10), 0);
        c.is("view in the third land", x.view(0, 0, 10), 10);
        c.is("obey another order of the same land", x.obey(2), 0);
        c.is("view in the first land as both are obeyed", x.view(0, 1, 10), 0);
        c.notAllowed("obey again", () -> x.obey(0));
        c.noIndex("obey(3)", () -> x.obey(3));
        c.noIndex("obey(-1)", () -> x.obey(-1));
    }

    private static void lateOrders(Check c) {
        ModHouse x = Houses.withAccounts(1);
        x.post(0, 0);
        x.order(0, 0, 0);
        x.order(1, 0, 1);
        x.order(2, 0, 1);
        c.is("late() on the day", x.late(), 0);
        x.pass(1);
        c.is("late() behind one", x.late(), 1);
        x.obey(1);
        x.pass(1);
        c.is("late() without what was obeyed", x.late(), 2);
        x.obey(0);
        c.is("late()", x.late(), 1);
    }

    private static void views(Check c) {
        ModHouse x = Houses.withAccounts(1);
        x.post(0, 0);
        c.noIndex("view(1, 0, 1)", () -> x.view(1, 0, 1));
        c.noIndex("view(-1, 3, 1) in no such land", () -> x.view(-1, 3, 1));
        c.noArgument("view(0, 3, 1)", () -> x.view(0, 3, 1));
        c.noArgument("view(0, -1, 1)", () -> x.view(0, -1, 1));
        c.noArgument("view(0, 0, 0)", () -> x.view(0, 0, 0));
        c.noArgument("view(0, 0, 100001)", () -> x.view(0, 0, 100001));
        c.is("view(0, 0, 1)", x.view(0, 0, 1), 1);
        c.is("view(0, 2, 100000)", x.view(0, 2, 100000), 100000);
        c.is("lost(0)", x.lost(0), 0);
        c.is("seen(0)", x.seen(0), 100001);
        c.noIndex("lost(1)", () -> x.lost(1));
        c.noIndex("lost(-1)", () -> x.lost(-1));
    }

    private static void viewsUnderDecisions(Check c) {
        ModHouse x = Houses.ruled(2, 'l', 0);
        x.addRule(1, 0, 'n', 0);
        x.addRule(1, 0, 'r', 0);
        x.post(0, 1);
        Houses.decided(x, 1, 0, 0);
        c.is("view of one labelled", x.view(0, 0, 9), 9);
        Houses.decided(x, 1, 0, 1);
        c.is("view of one narrowed, rounded down", x.view(0, 0, 9), 4);
        c.is("view of one narrowed by 1", x.view(0, 0, 1), 0);
        c.is("lost(0)", x.lost(0), 6);
        Houses.decided(x, 1, 0, 2);
        c.is("view of one removed", x.view(0, 0, 9), 0);
        c.is("lost(0)", x.lost(0), 15);
        c.is("seen(0)", x.seen(0), 13);
    }

    private static void viewsOfHiddenPosts(Check c) {
        ModHouse x = Houses.ruled(2, 'r', 0);
        x.post(0, 1);
        x.reply(0, 0, 0);
        int d = Houses.decided(x, 1, 0, 0);
        c.is("view of one hidden", x.view(1, 0, 8), 0);
        c.is("lost(1)", x.lost(1), 8);
        x.takeBack(d);
        c.is("owed(1): no decision acted on it", x.owed(1), 0);
        c.is("view of one hidden no more", x.view(1, 0, 8), 8);
    }

    private static void amends(Check c) {
        ModHouse x = Houses.ruled(4, 'n', 0);
        x.addRule(1, 0, 'r', 0);
        x.addRule(1, 0, 'l', 0);
        x.post(0, 1);
        x.order(0, 0, 0);
        int n = Houses.decided(x, 1, 0, 0);
        x.view(0, 1, 11);
        int l = Houses.decided(x, 1, 0, 2);
        x.obey(0);
        x.view(0, 0, 5);
        int r = Houses.decided(x, 1, 0, 1);
        x.view(0, 1, 7);
        c.is("lost(0): 6, 5 and 7", x.lost(0), 18);
        c.is("owed(0) as long as all stand", x.owed(0), 0);
        x.takeBack(r);
        c.is("owed(0) what was lost by the removal", x.owed(0), 7);
        x.takeBack(l);
        c.is("owed(0): labels lose nothing", x.owed(0), 7);
        c.is("view of one narrowed", x.view(0, 1, 8), 4);
        c.is("owed(0): 1 less for each who sees it", x.owed(0), 3);
        x.appeal(n, 0);
        x.hear(n, 1, true);
        c.is("owed(0): each for itself, 6 5 7 and 4", x.owed(0), 25);
        c.is("lost(0) is kept", x.lost(0), 22);
        x.view(0, 1, 100);
        c.is("owed(0) not below 0", x.owed(0), 0);
    }

    private static void days(Check c) {
        ModHouse x = new ModHouse();
        c.noArgument("pass(0)", () -> x.pass(0));
        c.noArgument("pass(-1)", () -> x.pass(-1));
        c.noArgument("pass(61)", () -> x.pass(61));
        c.is("pass(1)", x.pass(1), 1);
        c.is("pass(60)", x.pass(60), 61);
    }
}

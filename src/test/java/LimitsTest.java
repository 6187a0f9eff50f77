/** Numbers of things: the last place that is free and the first one that is not, and what counts towards them. */
final class LimitsTest {
    private LimitsTest() {
    }

    static void run(Check c) {
        twelveAccounts(c);
        fiftyPosts(c);
        sixRules(c);
        eightyReportsByPersons(c);
        fourModerators(c);
        limitsOfADay(c);
        fortyDecisions(c);
        twentyOrders(c);
        sixRegimes(c);
        fourBuyers(c);
        threeJurors(c);
        twoVotesAlike(c);
        onceOnly(c);
        nothingYet(c);
        fullRun(c);
    }

    private static void twelveAccounts(Check c) {
        ModHouse x = Houses.withAccounts(11);
        x.join(0, 10);
        c.is("addAccount in the last place", x.addAccount(), 11);
        c.noState("addAccount beyond it, though two are one person", () -> x.addAccount());
        c.is("post by the last account", x.post(11, 0), 0);
        c.noIndex("post by none behind it", () -> x.post(12, 0));
        c.is("meanWeight of 12", x.meanWeight(), 10.0);
    }

    private static ModHouse withPosts(int posts) {
        ModHouse x = Houses.ruled(3, 'l', 0);
        x.setScore(0, 0, 9);
        x.setThreshold(0, 9);
        for (int i = 0; i < posts; i++) {
            x.post(0, 0);
        }
        return x;
    }

    private static void fiftyPosts(Check c) {
        ModHouse x = withPosts(49);
        c.is("post in the last place", x.post(0, 1), 49);
        c.noState("post beyond it", () -> x.post(0, 0));
        c.noState("copy beyond it", () -> x.copy(0, 0));
        c.noState("reply beyond it", () -> x.reply(0, 0, 0));
        c.is("pressure on the last one by a classifier", x.pressure(49), 10);
        c.is("edit as all places are taken", x.edit(0, 1), 0);
        c.is("pressure on what was edited", x.pressure(0), 10);
        c.is("feedSize", x.feedSize(0), 50);
        c.is("feedAt the last place", x.feedAt(0, 49), 49);
        c.is("alike to the last one", x.alike(49), 1);
        c.is("decide on the last one", x.decide(0, 49, 0), 0);
        c.is("spread from the last one to the first one", x.spread(0), 1);
        c.is("stateOf the last one", x.stateOf(49), 'l');
        c.is("reach", x.reach(0), 2);
        ModHouse y = withPosts(49);
        c.is("copy in the last place", y.copy(1, 48), 49);
        c.noState("post beyond a copy", () -> y.post(0, 0));
        ModHouse z = withPosts(49);
        c.is("reply in the last place", z.reply(1, 48, 255), 49);
        c.noState("post beyond a reply", () -> z.post(0, 0));
    }

    private static void sixRules(Check c) {
        ModHouse x = Houses.withAccounts(2);
        x.addModerator(255, 9);
        for (int i = 0; i < 5; i++) {
            x.addRule(1, 0, 'l', 0);
        }
        c.is("addRule in the last place", x.addRule(2, 0, 'n', 0), 5);
        c.noState("addRule beyond it", () -> x.addRule(1, 0, 'l', 0));
        c.is("change of the last one as all places are taken", x.change(5, 2, 0, 'r', 0), 1);
        c.is("setScore of the last one", x.setScore(5, 1, 9), 0);
        x.setThreshold(5, 9);
        x.post(0, 2);
        c.is("pressure by its classifier", x.pressure(0), 10);
        c.is("decide by the last one", x.decide(0, 0, 5), 0);
        c.is("stateOf by the last one", x.stateOf(0), 'r');
    }

    /** Reports that are done, and two by accounts of one person, count; those by classifiers don't. */
    private static void eightyReportsByPersons(Check c) {
        ModHouse x = Houses.ruled(12, 'l', 0);
        x.setScore(0, 0, 9);
        x.setThreshold(0, 9);
        for (int i = 0; i < 9; i++) {
            x.post(0, 1);
        }
        int reports = 0;
        for (int account = 1; account < 12 && reports < 79; account++) {
            for (int post = 0; post < 8 && reports < 79; post++) {
                x.report(account, post, 0);
                reports++;
            }
        }
        x.join(1, 2);
        x.decide(0, 0, 0);
        x.decide(0, 1, -1);
        c.is("report in the last place", x.report(3, 8, 0), 18);
        c.noState("report beyond it", () -> x.report(4, 8, 0));
        c.notAllowed("report again beyond it", () -> x.report(3, 8, 0));
        c.is("all reports, those of the classifier too", x.numberOf(0, 'r'), 89);
        c.is("those of the classifier", x.numberOf(0, 'm'), 9);
        x.post(0, 1);
        c.is("pressure by a classifier beyond it", x.pressure(9), x.machineWeight(0));
        x.pass(60);
        c.noState("report beyond it, long behind", () -> x.report(4, 8, 0));
    }

    private static void fourModerators(Check c) {
        ModHouse x = Houses.withAccounts(2);
        for (int i = 0; i < 3; i++) {
            x.addModerator(0, 1);
        }
        x.addRule(1, 0, 'l', 0);
        x.post(0, 1);
        x.report(1, 0, 0);
        c.is("addModerator in the last place", x.addModerator(255, 9), 3);
        c.noState("addModerator beyond it", () -> x.addModerator(255, 9));
        c.is("next of the last one", x.next(3), 0);
        c.noIndex("next of none behind it", () -> x.next(4));
        c.is("decide by the last one", x.decide(3, 0, 0), 0);
    }

    /** Decisions by none, and those taken back, count towards the limit of a day; those of others don't. */
    private static void limitsOfADay(Check c) {
        ModHouse x = Houses.withAccounts(2);
        x.addModerator(255, 3);
        x.addModerator(255, 9);
        x.addRule(1, 0, 'l', 0);
        for (int i = 0; i < 20; i++) {
            x.post(0, i % 2);
            x.report(1, i, 0);
        }
        x.decide(1, 0, 0);
        x.decide(0, 1, -1);
        x.decide(0, 2, 0);
        x.takeBack(2);
        c.is("next ahead of the limit", x.next(0), 3);
        c.is("decide, the last one of the day", x.decide(0, 3, 0), 3);
        c.noElement("next at the limit", () -> x.next(0));
        c.notAllowed("decide beyond the limit", () -> x.decide(0, 4, 0));
        c.notAllowed("decide by none beyond the limit", () -> x.decide(0, 4, -1));
        for (int i = 4; i < 12; i++) {
            c.is("decide by another one", x.decide(1, i, 0), i);
        }
        c.notAllowed("decide beyond the limit of the other one", () -> x.decide(1, 12, 0));
        x.appeal(3, 0);
        c.is("hear at the limit", x.hear(3, 1, false), true);
        x.pass(1);
        c.is("next on the next day", x.next(0), 12);
        c.is("decide on the next day", x.decide(0, 12, 0), 12);
    }

    /** Decisions by none, and those that stand no more, count towards the 40. */
    private static void fortyDecisions(Check c) {
        ModHouse x = Houses.ruled(2, 'l', 0);
        for (int i = 0; i < 41; i++) {
            x.post(0, i == 0 ? 2 : 1);
            x.report(1, i, 0);
        }
        for (int i = 0; i < 39; i++) {
            x.decide(i % 2, i, i % 3 == 1 ? -1 : 0);
            if (i % 18 == 17) {
                x.pass(1);
            }
        }
        x.takeBack(0);
        x.appeal(38, 0);
        c.is("decide in the last place", x.decide(1, 39, 0), 39);
        c.noState("decide beyond it", () -> x.decide(1, 40, 0));
        c.noState("decide by none beyond it", () -> x.decide(1, 40, -1));
        c.is("next beyond it", x.next(1), 40);
        c.is("reach of the last one", x.reach(39), 1);
        c.is("hear beyond it", x.hear(38, 1, true), false);
        c.noState("decide beyond it as some stand no more", () -> x.decide(0, 40, -1));
        c.is("takeBack of the last one", x.takeBack(39), 1);
        c.noIndex("stands of none behind it", () -> x.stands(40));
    }

    private static void twentyOrders(Check c) {
        ModHouse x = Houses.withAccounts(1);
        x.post(0, 0);
        for (int i = 0; i < 19; i++) {
            x.order(0, 0, 0);
            x.obey(i);
        }
        c.is("order in the last place", x.order(2, 0, 0), 19);
        c.noState("order beyond it, though all but one are obeyed", () -> x.order(1, 0, 0));
        x.pass(1);
        c.is("late of the last one", x.late(), 1);
        c.is("obey the last one", x.obey(19), 1);
        c.noIndex("obey none behind it", () -> x.obey(20));
    }

    private static void sixRegimes(Check c) {
        ModHouse x = Houses.ruled(2, 'l', 0);
        x.addRule(2, 0, 'l', 0);
        for (int i = 1; i < 6; i++) {
            c.is("regime", x.regime(0, 'l', 0, i), i);
        }
        x.post(0, 2);
        x.report(1, 0, 1);
        x.decide(0, 0, 1);
        x.pass(9);
        c.is("regime in the last place, by another rule", x.regime(1, 'r', 0, 0), 6);
        c.noState("regime beyond it", () -> x.regime(1, 'n', 0, 0));
        c.is("stateOf under the last one", x.stateOf(0), 'r');
    }

    private static void fourBuyers(Check c) {
        ModHouse x = Houses.withAccounts(1);
        x.post(0, 1);
        for (int i = 1; i < 4; i++) {
            c.is("addBuyer", x.addBuyer(0), i);
        }
        c.is("beside three", x.beside(0), 3);
        c.is("addBuyer in the last place", x.addBuyer(2), 4);
        c.is("beside four", x.beside(0), 4);
        c.noState("addBuyer beyond it", () -> x.addBuyer(0));
        c.is("beside four still", x.beside(0), 4);
    }

    private static void threeJurors(Check c) {
        ModHouse x = Houses.ruled(4, 'l', 0);
        x.post(0, 1);
        int d = Houses.decided(x, 1, 0, 0);
        x.appeal(d, 0);
        c.noElement("jury of two", () -> x.jury(d));
        x.addAccount();
        c.is("jury of three: 48271 modulo 3 is 1 of 2, 3, 4", x.jury(d), 3);
        c.is("jurorAt(1): 182605794 modulo 2 is 0 of 2, 4", x.jurorAt(d, 1), 2);
        c.is("jurorAt(2): the one that is left", x.jurorAt(d, 2), 4);
    }

    private static ModHouse beforeJury() {
        ModHouse x = Houses.ruled(5, 'l', 0);
        x.post(0, 1);
        int d = Houses.decided(x, 1, 0, 0);
        x.appeal(d, 0);
        x.jury(d);
        return x;
    }

    /** All ways in which three jurors can vote, in each order of them. */
    private static void twoVotesAlike(Check c) {
        String[] orders = {"012", "021", "102", "120", "201", "210"};
        for (String order : orders) {
            int first = order.charAt(0) - '0';
            int second = order.charAt(1) - '0';
            int last = order.charAt(2) - '0';
            for (int votes = 0; votes < 8; votes++) {
                ModHouse x = beforeJury();
                boolean one = (votes & 1) != 0;
                boolean other = (votes & 2) != 0;
                boolean third = (votes & 4) != 0;
                c.is("the first vote", x.vote(0, first, one), '?');
                char behindTwo = one == other ? one ? 'o' : 's' : '?';
                c.is("the second vote", x.vote(0, second, other), behindTwo);
                if (one == other) {
                    c.notAllowed("a third vote when it was heard", () -> x.vote(0, last, third));
                } else {
                    c.is("the third vote", x.vote(0, last, third), third ? 'o' : 's');
                }
                c.is("stands", x.stands(0), one == other ? !one : !third);
            }
        }
    }

    private static void onceOnly(Check c) {
        ModHouse x = beforeJury();
        c.notAllowed("appeal twice", () -> x.appeal(0, 0));
        c.notAllowed("jury twice", () -> x.jury(0));
        x.vote(0, 1, true);
        c.notAllowed("vote twice", () -> x.vote(0, 1, true));
        c.is("spread once", x.spread(0), 0);
        c.notAllowed("spread twice", () -> x.spread(0));
        x.order(0, 0, 0);
        c.is("obey once", x.obey(0), 0);
        c.notAllowed("obey twice", () -> x.obey(0));
        c.is("report once", x.report(2, 0, 0), 10);
        c.notAllowed("report twice", () -> x.report(2, 0, 0));
        c.is("takeBack once", x.takeBack(0), 1);
        c.notAllowed("takeBack twice", () -> x.takeBack(0));
    }

    private static void nothingYet(Check c) {
        ModHouse x = new ModHouse();
        c.is("queued of none", x.queued(), 0);
        c.noIndex("queueAt of none", () -> x.queueAt(0));
        c.is("late of none", x.late(), 0);
        for (int land = 0; land < 3; land++) {
            int empty = land;
            c.is("feedSize of none", x.feedSize(land), 0);
            c.noIndex("feedAt of none", () -> x.feedAt(empty, 0));
        }
        c.fails("standShare of none", ArithmeticException.class, () -> x.standShare());
        c.fails("meanWeight of none", ArithmeticException.class, () -> x.meanWeight());
        c.is("isSound of none", x.isSound(), true);
        c.noIndex("weight of none", () -> x.weight(0));
        c.noIndex("stateOf of none", () -> x.stateOf(0));
        c.noIndex("numberOf of none", () -> x.numberOf(0, 'd'));
        c.noIndex("next of none", () -> x.next(0));
        c.noIndex("stands of none", () -> x.stands(0));
        c.noIndex("obey of none", () -> x.obey(0));
        x.addModerator(255, 9);
        c.noElement("next of an empty queue", () -> x.next(0));
        x.addAccount();
        c.is("meanWeight of one", x.meanWeight(), 10.0);
        x.post(0, 0);
        c.is("alike to no other", x.alike(0), 0);
        c.is("beside no buyer", x.beside(0), 0);
        c.is("heat of what none saw", x.heat(0), 0);
    }

    /** The 512th call is still answered as the first ones are. */
    private static void fullRun(Check c) {
        ModHouse x = new ModHouse();
        x.addAccount();
        x.post(0, 0);
        for (int i = 2; i < 511; i++) {
            x.view(0, i % 3, 100000);
        }
        c.is("seen, the 512th call", x.seen(0), 50900000L);
        ModHouse y = new ModHouse();
        for (int i = 0; i < 511; i++) {
            y.pass(60);
        }
        c.is("pass, the 512th call", y.pass(60), 30720);
        ModHouse z = new ModHouse();
        z.addRule(1, 0, 'l', 0);
        for (int i = 1; i < 510; i += 2) {
            z.pass(1);
            z.change(0, 1, 0, 'n', 0);
        }
        c.is("change, the 512th call", z.change(0, 1, 0, 'r', 0), 256);
    }
}

import java.util.ArrayList;
import java.util.List;

/** The other sentences of "Terms" that name an edge: what is just enough, just too little, equal, none or all. */
final class EdgesTest {
    private static final long LOT_MODULUS = 2147483647L;

    private EdgesTest() {
    }

    static void run(Check c) {
        personsOfAllAccounts(c);
        lowerWeights(c);
        weightsUpTo20(c);
        weightsDownTo1(c);
        weightsOverturnedDownTo1(c);
        machineWeightsAtTheirEnds(c);
        familiesOfEdits(c);
        hiddenByThreads(c);
        needsAndExceptions(c);
        pressureOnceForEach(c);
        orderOfTheQueue(c);
        whatMayBeSeen(c);
        precedents(c);
        precedentsOfEdits(c);
        bansByStrikes(c);
        lots(c);
        whoCanBeDrawn(c);
        lotsAreKept(c);
        halves(c);
        lostByEach(c);
        lostWhateverHidIt(c);
        amendsToTheLast(c);
        thresholds(c);
        boundClassifiers(c);
        likeness(c);
        spreadsToWhatBreaksNow(c);
        versionsOfEach(c);
        worseActs(c);
        buyers(c);
        heats(c);
        orderOfTheFeed(c);
        shares(c);
    }

    private static void personsOfAllAccounts(Check c) {
        ModHouse x = Houses.ruled(12, 'n', 3);
        c.is("join of an account with itself", x.join(3, 3), 1);
        for (int i = 1; i < 12; i++) {
            c.is("join", x.join(i, i - 1), i + 1);
        }
        c.is("join of two that are one", x.join(0, 11), 12);
        x.post(4, 1);
        c.notAllowed("report of an own post by any account", () -> x.report(9, 0, 0));
        ModHouse y = Houses.ruled(5, 'n', 3);
        y.post(0, 1);
        y.post(1, 1);
        y.report(2, 1, 0);
        y.report(4, 1, 0);
        Houses.decided(y, 3, 0, 0);
        y.join(1, 0);
        c.is("isBanned by the post of the other account", y.isBanned(1), true);
        c.notAllowed("edit by one who is banned by another account", () -> y.edit(1, 1));
        y.join(2, 1);
        c.is("isBanned of a third account", y.isBanned(2), true);
        y.addAccount();
        y.addAccount();
        y.post(3, 0);
        y.report(6, 2, 0);
        y.join(6, 5);
        c.notAllowed("report by the lower account of who has reported it", () -> y.report(5, 2, 0));
        c.notAllowed("report again by the account that has reported it", () -> y.report(6, 2, 0));
        c.is("pressure by a report that waits, whatever becomes of the person", y.pressure(1), 20);
        c.is("appeal by the third account", y.appeal(0, 2), 13);
    }

    /** The account 1 with a weight of 20, 2 with 1, 3 with 10. */
    private static ModHouse weighted() {
        ModHouse x = Houses.ruled(4, 'l', 0);
        for (int i = 0; i < 5; i++) {
            x.post(0, 1);
            Houses.decided(x, 1, i, 0);
            x.report(2, i, 0);
            x.decide(1, i, -1);
            x.pass(1);
        }
        return x;
    }

    private static void lowerWeights(Check c) {
        ModHouse x = weighted();
        c.is("weight(1)", x.weight(1), 20);
        c.is("weight(2)", x.weight(2), 1);
        x.join(1, 3);
        c.is("weight of 20 with 10", x.weight(1), 10);
        x.join(2, 1);
        c.is("weight of 1 with 10", x.weight(3), 1);
        ModHouse y = weighted();
        y.join(1, 2);
        c.is("weight of 20 with 1", y.weight(1), 1);
        y.join(1, 1);
        c.is("weight of one with itself", y.weight(2), 1);
        ModHouse z = weighted();
        z.join(3, 1);
        c.is("weight of 10 with 20", z.weight(1), 10);
        c.is("meanWeight: 10, 10, 1 and 10", z.meanWeight(), 31.0 / 4.0);
    }

    private static void weightsUpTo20(Check c) {
        ModHouse x = Houses.ruled(3, 'l', 0);
        int[] due = {12, 14, 16, 18, 20, 20};
        for (int i = 0; i < due.length; i++) {
            x.post(0, 1);
            Houses.decided(x, 1, i, 0);
            c.is("weight behind the right report " + i, x.weight(1), due[i]);
        }
        x.pass(1);
        x.post(0, 1);
        x.report(1, 6, 0);
        x.decide(0, 6, -1);
        c.is("weight of 20, 3 less", x.weight(1), 17);
        int[] odd = {19, 20, 20};
        for (int i = 0; i < odd.length; i++) {
            x.post(0, 1);
            Houses.decided(x, 1, 7 + i, 0);
            c.is("weight from 17 on", x.weight(1), odd[i]);
        }
    }

    private static void weightsDownTo1(Check c) {
        ModHouse x = Houses.ruled(3, 'l', 0);
        x.addRule(1, 0, 'l', 0);
        int[] due = {7, 4, 1, 1};
        for (int i = 0; i < due.length; i++) {
            x.post(0, 1);
            x.report(1, i, 1);
            x.decide(0, i, 0);
            c.is("weight behind the wrong report " + i, x.weight(1), due[i]);
        }
        int[] sums = {3, 1, 3, 5, 2, 1};
        boolean[] isRight = {true, false, true, true, false, false};
        for (int i = 0; i < sums.length; i++) {
            x.pass(1);
            x.post(0, 1);
            x.report(1, 4 + i, 0);
            x.decide(0, 4 + i, isRight[i] ? 0 : -1);
            c.is("weight from 1 on", x.weight(1), sums[i]);
        }
    }

    /** Overturns a decision of a reporter whose weight was brought to some value ahead of it. */
    private static int overturnedFrom(int rights, int wrongs) {
        ModHouse x = Houses.ruled(3, 'l', 0);
        int post = 0;
        for (int i = 0; i < wrongs; i++) {
            x.post(0, 2);
            x.report(1, post, 0);
            x.decide(0, post, -1);
            post++;
        }
        for (int i = 0; i < rights; i++) {
            x.post(0, 1);
            Houses.decided(x, 1, post, 0);
            post++;
        }
        int d = x.numberOf(0, 'd') + wrongs - 1;
        x.appeal(d, 0);
        x.hear(d, 1, true);
        return x.weight(1);
    }

    private static void weightsOverturnedDownTo1(Check c) {
        c.is("10, 2 greater, 5 less", overturnedFrom(1, 0), 7);
        c.is("7, 2 greater, 5 less", overturnedFrom(1, 1), 4);
        c.is("4, 2 greater, 5 less: just 1", overturnedFrom(1, 2), 1);
        c.is("1, 2 greater, 5 less: at least 1", overturnedFrom(1, 3), 1);
        c.is("1, 4 greater, 5 less: at least 1", overturnedFrom(2, 3), 1);
        c.is("1, 6 greater, 5 less", overturnedFrom(3, 3), 2);
        c.is("20, 5 less", overturnedFrom(6, 0), 15);
    }

    private static void machineWeightsAtTheirEnds(Check c) {
        ModHouse x = Houses.ruled(2, 'l', 0);
        x.setScore(0, 0, 1);
        x.setThreshold(0, 1);
        int[] due = {12, 14, 16, 18, 20, 20, 17, 19, 20};
        for (int i = 0; i < due.length; i++) {
            x.post(0, 1);
            x.decide(0, i, i == 6 ? -1 : 0);
            c.is("machineWeight behind decision " + i, x.machineWeight(0), due[i]);
        }
        x.pass(1);
        int[] less = {17, 14, 11, 8, 5, 2, 1, 1};
        for (int i = 0; i < less.length; i++) {
            x.post(0, 1);
            x.decide(1, 9 + i, -1);
            c.is("machineWeight by none", x.machineWeight(0), less[i]);
        }
        x.appeal(8, 0);
        x.hear(8, 1, true);
        c.is("machineWeight, 5 less, at least 1", x.machineWeight(0), 1);
        x.pass(1);
        for (int i = 17; i < 20; i++) {
            x.post(0, 3);
            x.decide(0, i, 0);
        }
        c.is("machineWeight of 7", x.machineWeight(0), 7);
        x.appeal(19, 0);
        x.hear(19, 1, true);
        c.is("machineWeight, 5 less", x.machineWeight(0), 2);
    }

    private static void familiesOfEdits(Check c) {
        ModHouse x = Houses.ruled(4, 'l', 0);
        x.post(0, 1);
        x.copy(1, 0);
        x.copy(2, 1);
        x.copy(3, 2);
        c.is("alike in one family", x.alike(0), 0);
        c.is("edit of the first one by the same marks", x.edit(0, 1), 1);
        c.is("alike to the first one", x.alike(0), 3);
        c.is("alike to its copies, a family with one another", x.alike(1), 1);
        x.edit(2, 1);
        c.is("alike to one in the middle", x.alike(2), 3);
        int d = Houses.decided(x, 0, 3, 0);
        c.is("reach: the last one stays with what it is a copy of else", x.reach(d), 2);
        c.is("stateOf(1)", x.stateOf(1), 'l');
        c.is("stateOf(2)", x.stateOf(2), '-');
        c.is("copy of the one in the middle", x.copy(0, 2), 4);
        c.is("alike to it: not its own copy", x.alike(2), 3);
        x.edit(4, 1);
        c.is("alike to it: its copy was edited too", x.alike(2), 4);
    }

    private static void hiddenByThreads(Check c) {
        ModHouse x = Houses.ruled(3, 'r', 0);
        x.addRule(1, 0, 'n', 0);
        x.post(0, 3);
        x.reply(0, 0, 1);
        x.reply(0, 1, 0);
        for (int i = 3; i < 45; i++) {
            x.reply(0, i - 1, 0);
        }
        x.reply(1, 0, 0);
        int n = Houses.decided(x, 2, 1, 1);
        c.is("isHidden under one narrowed", x.isHidden(2), false);
        int d = Houses.decided(x, 2, 1, 0);
        c.is("isHidden of the one above", x.isHidden(0), false);
        c.is("isHidden of the one removed", x.isHidden(1), false);
        c.is("isHidden of the one below", x.isHidden(2), true);
        c.is("isHidden of the last one below", x.isHidden(44), true);
        c.is("isHidden beside", x.isHidden(45), false);
        x.takeBack(n);
        c.is("isHidden as it is still removed", x.isHidden(44), true);
        int e = Houses.decided(x, 2, 0, 0);
        c.is("isHidden of one removed under one removed", x.isHidden(1), true);
        c.is("isHidden beside, below the first one", x.isHidden(45), true);
        x.takeBack(d);
        c.is("isHidden as the first one is removed", x.isHidden(44), true);
        x.takeBack(e);
        c.is("isHidden under none removed", x.isHidden(44), false);
    }

    private static void needsAndExceptions(Check c) {
        ModHouse x = Houses.withAccounts(1);
        x.addRule(0x83, 0x24, 'l', 0);
        x.addRule(1, 1, 'l', 0);
        x.addRule(255, 0, 'l', 0);
        for (int marks = 0; marks < 50; marks++) {
            x.post(0, marks * 5);
        }
        int[] edits = {0x83, 0x82, 0x81, 0x03, 0xA3, 0x87, 0xA7, 0xDB, 0xFF, 0, 0xFE};
        boolean[] first = {true, false, false, false, false, false, false, true, false, false, false};
        for (int i = 0; i < edits.length; i++) {
            x.edit(0, edits[i]);
            c.is("breaks by all that it needs, and none that it excepts: " + edits[i], x.breaks(0, 0), first[i]);
            c.is("breaks what excepts that it needs", x.breaks(0, 1), false);
            c.is("breaks what needs all", x.breaks(0, 2), edits[i] == 255);
        }
        for (int i = 1; i < 50; i++) {
            int marks = i * 5;
            c.is("breaks with " + marks, x.breaks(i, 0), (marks & 0x83) == 0x83 && (marks & 0x24) == 0);
        }
    }

    private static void pressureOnceForEach(Check c) {
        ModHouse x = Houses.ruled(6, 'l', 0);
        x.addRule(1, 0, 'l', 0);
        x.addRule(1, 0, 'l', 0);
        x.setScore(0, 0, 1);
        x.setThreshold(0, 1);
        x.setScore(1, 0, 1);
        x.setThreshold(1, 1);
        x.post(0, 1);
        c.is("pressure by two classifiers", x.pressure(0), 20);
        c.is("report", x.report(1, 0, 0), 30);
        c.is("report by a second rule", x.report(1, 0, 1), 30);
        c.is("report by a third rule", x.report(1, 0, 2), 30);
        c.is("report by another one", x.report(2, 0, 2), 40);
        x.join(1, 2);
        c.is("pressure as they are one person", x.pressure(0), 30);
        x.join(0, 1);
        c.is("pressure as it is the person of the post", x.pressure(0), 30);
        x.post(5, 0);
        x.report(3, 1, 0);
        x.decide(0, 1, -1);
        c.is("report with less weight", x.report(3, 0, 0), 37);
        x.post(5, 0);
        Houses.decided(x, 3, 2, 0);
        c.is("pressure as the weight is 2 greater", x.pressure(0), 39);
        x.decide(0, 0, -1);
        c.is("pressure when all are done", x.pressure(0), 0);
    }

    private static void orderOfTheQueue(Check c) {
        ModHouse x = Houses.ruled(12, 'r', 0);
        x.addRule(1, 0, 'n', 0);
        x.addRule(1, 0, 'l', 0);
        for (int i = 0; i < 8; i++) {
            x.post(0, 1);
        }
        x.pass(1);
        x.addRule(1, 0, 'r', 0);
        for (int account = 1; account < 12; account++) {
            x.report(account, 0, 3);
            x.report(account, 1, 2);
        }
        x.report(1, 2, 1);
        x.report(1, 3, 0);
        x.report(2, 4, 1);
        x.report(2, 5, 1);
        x.report(3, 5, 2);
        x.report(4, 6, 2);
        x.report(4, 6, 3);
        int[] due = {3, 5, 2, 4, 1, 6, 0};
        c.is("queued", x.queued(), due.length);
        for (int i = 0; i < due.length; i++) {
            c.is("queueAt " + i + " by harm, pressure, number", x.queueAt(i), due[i]);
        }
        c.noIndex("queueAt behind the last one", () -> x.queueAt(7));
        x.decide(0, 3, 0);
        c.is("next by one harm less", x.next(0), 5);
        c.is("queueAt the last place", x.queueAt(5), 0);
        c.noIndex("queueAt the place that was the last one", () -> x.queueAt(6));
    }

    private static void whatMayBeSeen(Check c) {
        int[] marks = {0, 2, 4, 6, 7, 8, 14, 254, 255, 1};
        boolean[] bySix = {true, true, true, true, false, false, false, false, false, false};
        boolean[] byMost = {true, true, true, true, false, true, true, true, false, false};
        for (int i = 0; i < marks.length; i++) {
            ModHouse x = Houses.withAccounts(2);
            x.addModerator(0, 9);
            x.addModerator(6, 9);
            x.addModerator(254, 9);
            x.addModerator(255, 9);
            x.addRule(1, 0, 'l', 0);
            x.post(0, marks[i]);
            x.report(1, 0, 0);
            c.is("one who sees none sees " + marks[i], isSeen(x, 0), marks[i] == 0);
            c.is("one who sees 2 and 4 sees " + marks[i], isSeen(x, 1), bySix[i]);
            c.is("one who sees all but 1 sees " + marks[i], isSeen(x, 2), byMost[i]);
            c.is("one who sees all sees " + marks[i], isSeen(x, 3), true);
        }
    }

    private static boolean isSeen(ModHouse x, int moderator) {
        try {
            return x.next(moderator) == 0;
        } catch (java.util.NoSuchElementException e) {
            return false;
        }
    }

    private static void precedents(Check c) {
        ModHouse x = Houses.ruled(6, 'l', 0);
        x.addRule(1, 0, 'l', 0);
        x.post(0, 5);
        int d = Houses.decided(x, 1, 0, 0);
        x.appeal(d, 0);
        x.jury(d);
        x.vote(d, 0, true);
        x.vote(d, 1, true);
        int[] marks = {5, 4, 1, 7, 13, 0, 255};
        for (int i = 0; i < marks.length; i++) {
            int post = x.post(5, marks[i]);
            x.report(1, post, 0);
            if (marks[i] == 5) {
                c.notAllowed("decide on just those marks", () -> x.decide(0, post, 0));
                c.notAllowed("decide on just those marks by another moderator", () -> x.decide(1, post, 0));
                c.is("decide on just those marks by another rule", x.decide(0, post, 1), 1);
            } else {
                c.is("decide on other marks, " + marks[i], x.decide(0, post, 0), i + 1);
            }
        }
        x.post(5, 5);
        x.report(2, 8, 0);
        c.is("decide on just those marks by none", x.decide(1, 8, -1), 8);
    }

    /** The marks with which it was decided are those of that time. */
    private static void precedentsOfEdits(Check c) {
        ModHouse x = Houses.ruled(3, 'l', 0);
        x.post(0, 1);
        int d = Houses.decided(x, 1, 0, 0);
        x.appeal(d, 0);
        x.hear(d, 1, true);
        x.edit(0, 3);
        x.report(2, 0, 0);
        c.is("decide on it with other marks", x.decide(0, 0, 0), 1);
        x.post(0, 1);
        x.report(2, 1, 0);
        c.notAllowed("decide on another one with those of that time", () -> x.decide(0, 1, 0));
        x.decide(0, 1, -1);
        x.edit(1, 3);
        x.report(1, 1, 0);
        c.is("decide on it with other marks", x.decide(0, 1, 0), 3);
    }

    private static void bansByStrikes(Check c) {
        int[] strikes = {0, 1, 2, 3};
        for (int most : strikes) {
            for (int posts = 1; posts < 4; posts++) {
                ModHouse x = Houses.ruled(3, 'l', most);
                x.post(0, 1);
                for (int i = 1; i < posts; i++) {
                    x.copy(0, 0);
                }
                x.post(1, 0);
                Houses.decided(x, 2, 0, 0);
                int sum = most * posts;
                c.is("strikes of " + posts + " posts by " + most, x.strikes(0), sum);
                c.is("isBanned by " + sum, x.isBanned(0), sum >= 3);
                if (sum >= 3) {
                    c.notAllowed("post by " + sum, () -> x.post(0, 0));
                } else {
                    c.is("post by " + sum, x.post(0, 0), posts + 1);
                }
                c.is("isBanned of another one", x.isBanned(1), false);
            }
        }
    }

    /** Nine juries of one house, whose lots are worked out here once more. */
    private static void lots(Check c) {
        ModHouse x = Houses.ruled(12, 'l', 0);
        x.join(7, 3);
        x.join(11, 10);
        long z = 1L;
        for (int i = 0; i < 9; i++) {
            x.post(0, 1);
            int d = Houses.decided(x, 1 + i % 2, i, 0);
            x.appeal(d, 0);
            List<Integer> left = new ArrayList<>();
            for (int account = 1; account < 11; account++) {
                if (account != 1 + i % 2 && account != 7) {
                    left.add(account);
                }
            }
            for (int j = 0; j < 3; j++) {
                z = z * 48271L % LOT_MODULUS;
                int due = left.remove((int) (z % left.size()));
                c.is("juror " + j + " of jury " + i, j == 0 ? x.jury(d) : x.jurorAt(d, j), due);
            }
        }
    }

    /** Nobody is banned here; 0 posted it, 1 a copy, 2 is one to whom it spread, 9 and 3 reported it. */
    private static void whoCanBeDrawn(Check c) {
        ModHouse x = Houses.ruled(10, 'l', 0);
        x.addRule(1, 0, 'l', 0);
        x.post(0, 1);
        x.copy(1, 0);
        x.post(2, 1);
        x.post(4, 0);
        x.report(8, 0, 0);
        x.decide(0, 0, -1);
        x.report(9, 0, 0);
        x.report(5, 0, 1);
        int d = x.decide(0, 0, 0);
        x.spread(d);
        x.join(9, 3);
        x.appeal(d, 2);
        c.is("jury: 48271 modulo 4 is 3 of 4, 5, 6, 7", x.jury(d), 7);
        c.is("jurorAt(1): 182605794 modulo 3 is 0 of 4, 5, 6", x.jurorAt(d, 1), 4);
        c.is("jurorAt(2): 1291394886 modulo 2 is 0 of 5, 6", x.jurorAt(d, 2), 5);
    }

    /** A jury that can't be drawn, or was refused, takes no lot. */
    private static void lotsAreKept(Check c) {
        ModHouse x = Houses.ruled(4, 'l', 0);
        x.post(0, 1);
        int d = Houses.decided(x, 1, 0, 0);
        c.notAllowed("jury without an appeal", () -> x.jury(d));
        x.appeal(d, 0);
        for (int i = 0; i < 3; i++) {
            c.noElement("jury of too few", () -> x.jury(d));
        }
        x.addAccount();
        x.addAccount();
        c.is("jury by the first lot: 48271 modulo 4 is 3 of 2, 3, 4, 5", x.jury(d), 5);
        c.notAllowed("jury again", () -> x.jury(d));
        x.post(0, 3);
        int e = Houses.decided(x, 1, 1, 0);
        x.appeal(e, 0);
        c.is("jury by the fourth lot: 1914720637 modulo 4 is 1 of 2, 3, 4, 5", x.jury(e), 3);
    }

    private static void halves(Check c) {
        ModHouse x = Houses.ruled(2, 'n', 0);
        x.post(0, 1);
        Houses.decided(x, 1, 0, 0);
        int[] people = {1, 2, 3, 4, 99999, 100000};
        int[] due = {0, 1, 1, 2, 49999, 50000};
        long seen = 0L;
        long lost = 0L;
        for (int i = 0; i < people.length; i++) {
            c.is("view by " + people[i], x.view(0, 0, people[i]), due[i]);
            seen += due[i];
            lost += people[i] - due[i];
            c.is("seen", x.seen(0), seen);
            c.is("lost", x.lost(0), lost);
        }
        x.order(1, 0, 0);
        c.is("view in a land with an order that is not obeyed", x.view(0, 1, 8), 4);
        x.obey(0);
        c.is("view in a land where it is withheld", x.view(0, 1, 8), 0);
        c.is("lost with all of them", x.lost(0), lost + 12);
    }

    /** What is lost is charged to each that removes or narrows, all of it, and to none that labels. */
    private static void lostByEach(Check c) {
        ModHouse x = Houses.ruled(3, 'l', 0);
        x.addRule(1, 0, 'n', 0);
        x.addRule(1, 0, 'r', 0);
        x.post(0, 1);
        x.view(0, 0, 4);
        int label = Houses.decided(x, 1, 0, 0);
        int narrow = Houses.decided(x, 1, 0, 1);
        x.view(0, 0, 5);
        x.report(2, 0, 1);
        int again = x.decide(1, 0, 1);
        x.view(0, 0, 7);
        int remove = Houses.decided(x, 1, 0, 2);
        x.view(0, 0, 11);
        c.is("lost once: 3, 4 and 11", x.lost(0), 18);
        c.is("owed as all stand", x.owed(0), 0);
        x.takeBack(label);
        c.is("owed by the label", x.owed(0), 0);
        x.takeBack(remove);
        c.is("owed by the removal: 11", x.owed(0), 11);
        x.takeBack(again);
        c.is("owed by the second one that narrows: 4 and 11 more", x.owed(0), 26);
        x.takeBack(narrow);
        c.is("owed by the first one that narrows: 3, 4 and 11 more", x.owed(0), 44);
        c.is("lost is kept", x.lost(0), 18);
        x.view(0, 0, 4);
        c.is("owed by one less for each", x.owed(0), 40);
    }

    /** A post that is narrowed, and also withheld, or also hidden: all that it lost is charged to what narrows it. */
    private static void lostWhateverHidIt(Check c) {
        ModHouse x = Houses.ruled(3, 'n', 0);
        x.addRule(2, 0, 'r', 0);
        x.post(0, 2);
        x.reply(1, 0, 1);
        x.order(2, 1, 0);
        x.obey(0);
        x.view(1, 2, 100);
        int narrow = Houses.decided(x, 2, 1, 0);
        c.is("view where it is withheld", x.view(1, 2, 9), 0);
        int remove = Houses.decided(x, 2, 0, 1);
        c.is("view as it is hidden", x.view(1, 0, 20), 0);
        x.takeBack(remove);
        c.is("owed by what hid it", x.owed(1), 0);
        c.is("view as it is narrowed alone", x.view(1, 0, 3), 1);
        x.takeBack(narrow);
        c.is("owed by what narrowed it: 9, 20 and 2", x.owed(1), 31);
        c.is("lost with what no decision is charged with", x.lost(1), 131);
    }

    private static void amendsToTheLast(Check c) {
        int[] seeing = {1, 9, 10, 11, 100000};
        for (int people : seeing) {
            ModHouse x = Houses.ruled(2, 'r', 0);
            x.post(0, 1);
            int d = Houses.decided(x, 1, 0, 0);
            x.view(0, 0, 10);
            x.appeal(d, 0);
            x.hear(d, 1, true);
            c.is("owed", x.owed(0), 10);
            x.view(0, 2, people);
            c.is("owed behind " + people, x.owed(0), Math.max(0, 10 - people));
        }
        ModHouse y = Houses.ruled(3, 'r', 0);
        y.addRule(2, 0, 'n', 0);
        y.post(0, 3);
        int d = Houses.decided(y, 1, 0, 0);
        y.view(0, 0, 10);
        y.takeBack(d);
        y.order(1, 0, 0);
        y.obey(0);
        y.view(0, 1, 50);
        c.is("owed as none see it", y.owed(0), 10);
        int e = Houses.decided(y, 2, 0, 1);
        y.view(0, 0, 7);
        c.is("owed as 3 of 7 see it", y.owed(0), 7);
        y.takeBack(e);
        c.is("owed with 4 more", y.owed(0), 11);
    }

    private static void thresholds(Check c) {
        ModHouse x = Houses.ruled(1, 'l', 0);
        for (int i = 0; i < 8; i++) {
            x.setScore(0, i, 9);
        }
        x.post(0, 254);
        c.is("score of 63", x.score(0, 0), 63);
        c.is("pressure below the first threshold", x.pressure(0), 0);
        x.post(0, 255);
        c.is("score of 72", x.score(0, 1), 72);
        c.is("pressure at the first threshold", x.pressure(1), 10);
        for (int i = 0; i < 8; i++) {
            x.setScore(0, i, -9);
        }
        c.is("score of -72", x.score(0, 1), -72);
        c.is("setThreshold", x.setThreshold(0, -71), 72);
        x.post(0, 255);
        c.is("pressure below a threshold of -71", x.pressure(2), 0);
        c.is("setThreshold", x.setThreshold(0, -72), -71);
        x.post(0, 255);
        c.is("pressure at a threshold of -72", x.pressure(3), 10);
        x.post(0, 0);
        c.is("pressure beyond it, without marks", x.pressure(4), 10);
        x.setThreshold(0, 0);
        x.post(0, 0);
        c.is("pressure at a threshold of 0, without marks", x.pressure(5), 10);
        x.setThreshold(0, 1);
        x.post(0, 0);
        c.is("pressure below a threshold of 1, without marks", x.pressure(6), 0);
    }

    private static void boundClassifiers(Check c) {
        ModHouse x = Houses.ruled(3, 'l', 0);
        x.setScore(0, 1, 5);
        x.setThreshold(0, 5);
        x.post(0, 2);
        c.is("breaks nothing", x.breaks(0, 0), false);
        c.is("pressure by one whose rule binds it, not broken", x.pressure(0), 10);
        c.is("copy", x.copy(1, 0), 1);
        c.is("pressure on a copy", x.pressure(1), 10);
        c.is("reply", x.reply(1, 0, 2), 2);
        c.is("pressure on a reply", x.pressure(2), 10);
        x.setScore(0, 1, 4);
        x.copy(1, 0);
        c.is("pressure on a copy below the threshold", x.pressure(3), 0);
        x.setScore(0, 1, 6);
        x.copy(1, 0);
        c.is("pressure on a copy above the threshold", x.pressure(4), 10);
        x.decide(0, 0, -1);
        x.edit(0, 2);
        c.is("pressure again behind an edit", x.pressure(0), 7);
        x.decide(0, 0, -1);
        x.edit(0, 2);
        c.is("pressure again behind the next edit", x.pressure(0), 4);
        c.is("reports of the classifier", x.numberOf(0, 'm'), 6);
    }

    private static void likeness(Check c) {
        int[] marks = {0x00, 0x01, 0x03, 0x07, 0x0F};
        for (int most = 0; most <= 3; most++) {
            ModHouse x = Houses.withAccounts(1);
            x.setLikeness(most);
            for (int mark : marks) {
                x.post(0, mark);
            }
            x.copy(0, 0);
            c.is("alike to none by at most " + most, x.alike(0), most);
            c.is("alike to one of a family by at most " + most, x.alike(4), most);
            x.post(0, 0);
            c.is("alike with one of just those marks by at most " + most, x.alike(0), most + 1);
        }
    }

    private static void spreadsToWhatBreaksNow(Check c) {
        ModHouse x = Houses.withAccounts(4);
        x.addModerator(255, 9);
        x.addRule(1, 8, 'n', 0);
        x.setLikeness(1);
        int[] marks = {1, 1, 3, 9, 0, 7, 5};
        for (int mark : marks) {
            x.post(mark % 3, mark);
        }
        int d = Houses.decided(x, 3, 0, 0);
        c.is("spread to what has 1, or 3 or 5: not to 9, 0, 7", x.spread(d), 3);
        c.is("reach", x.reach(d), 4);
        char[] due = {'n', 'n', 'n', '-', '-', '-', 'n'};
        for (int i = 0; i < due.length; i++) {
            c.is("stateOf " + i, x.stateOf(i), due[i]);
        }
        x.edit(3, 1);
        x.post(2, 1);
        x.pass(1);
        x.post(2, 1);
        x.copy(2, 1);
        c.is("reach: no more, though four are alike now", x.reach(d), 4);
        x.setLikeness(0);
        c.is("reach: no less, though two are not alike now", x.reach(d), 4);
        c.is("stateOf of a copy of one to which it spread", x.stateOf(9), '-');
    }

    /** Strikes, acts and days are those of each post: 0 of the first version, its copies of later ones. */
    private static void versionsOfEach(Check c) {
        ModHouse x = Houses.ruled(5, 'l', 0);
        x.post(0, 1);
        x.pass(1);
        x.change(0, 2, 0, 'n', 1);
        x.copy(1, 0);
        x.pass(1);
        x.change(0, 4, 0, 'r', 2);
        x.copy(2, 0);
        x.post(3, 1);
        x.setLikeness(3);
        int d = Houses.decided(x, 4, 1, 0);
        c.is("reach", x.reach(d), 3);
        char[] acts = {'l', 'n', 'r', '-'};
        for (int i = 0; i < acts.length; i++) {
            c.is("stateOf by the version of each, " + i, x.stateOf(i), acts[i]);
            c.is("strikes by the version of each, " + i, x.strikes(i), i % 3);
        }
        c.is("spread to none, as it lacks what its version needs", x.spread(d), 0);
        x.change(0, 1, 2, 'r', 3);
        c.is("reach by a version that took the place", x.reach(d), 3);
        c.is("stateOf by one of an earlier day still", x.stateOf(1), 'n');
        c.is("strikes by one that took the place", x.strikes(2), 3);
        c.is("breaks by one that took the place", x.breaks(2, 0), true);
    }

    private static void worseActs(Check c) {
        String acts = "lnr";
        for (int own = 0; own < 3; own++) {
            for (int told = 0; told < 3; told++) {
                ModHouse x = Houses.ruled(2, acts.charAt(own), 0);
                x.regime(0, acts.charAt(told), 0, 0);
                x.post(0, 1);
                Houses.decided(x, 1, 0, 0);
                c.is("stateOf by " + acts.charAt(own) + " under " + acts.charAt(told), x.stateOf(0),
                        acts.charAt(Math.max(own, told)));
            }
        }
    }

    private static void buyers(Check c) {
        ModHouse x = Houses.ruled(6, 'l', 0);
        x.addBuyer(0);
        x.addBuyer(4);
        x.addBuyer(255);
        x.post(0, 0);
        c.is("beside what has no marks", x.beside(0), 3);
        x.post(0, 3);
        c.is("beside what has others", x.beside(1), 2);
        x.post(0, 4);
        c.is("beside what has those", x.beside(2), 1);
        x.report(1, 0, 0);
        c.is("beside under a pressure of 10", x.beside(0), 3);
        x.report(2, 0, 0);
        c.is("beside under a pressure of 20", x.beside(0), 0);
        x.report(3, 0, 0);
        c.is("beside under a pressure of 30", x.beside(0), 0);
        x.report(4, 1, 0);
        x.decide(0, 1, -1);
        x.report(4, 2, 0);
        x.decide(0, 2, 0);
        c.is("weight", x.weight(4), 9);
        c.is("beside what is labelled", x.beside(2), 0);
        x.addRule(1, 0, 'l', 0);
        x.report(4, 1, 1);
        x.report(5, 1, 0);
        c.is("pressure of 19", x.pressure(1), 19);
        c.is("beside under a pressure of 19", x.beside(1), 2);
        x.order(0, 1, 0);
        x.obey(0);
        c.is("beside what is withheld in a land", x.beside(1), 2);
    }

    private static void heats(Check c) {
        ModHouse x = Houses.ruled(4, 'n', 0);
        x.addRule(1, 0, 'r', 0);
        x.post(0, 1);
        x.view(0, 0, 1);
        c.is("heat by one", x.heat(0), 1);
        int n = Houses.decided(x, 1, 0, 0);
        c.is("heat by half of one, rounded down", x.heat(0), 0);
        x.report(2, 0, 0);
        c.is("heat below 0", x.heat(0), -10);
        x.decide(0, 0, -1);
        int r = Houses.decided(x, 3, 0, 1);
        x.view(0, 0, 3);
        x.takeBack(r);
        c.is("heat by half of one, and all that it is owed", x.heat(0), 3);
        x.takeBack(n);
        c.is("heat by one, and 3 by each that is owed", x.heat(0), 7);
        x.view(0, 0, 2);
        c.is("heat by three, and 4 owed", x.heat(0), 7);
    }

    private static void orderOfTheFeed(Check c) {
        ModHouse x = Houses.ruled(4, 'r', 0);
        for (int i = 0; i < 6; i++) {
            x.post(0, i);
        }
        x.view(4, 0, 3);
        x.view(2, 1, 3);
        x.view(5, 2, 4);
        x.report(1, 0, 0);
        x.report(1, 1, 0);
        x.report(2, 1, 0);
        int[] due = {5, 2, 4, 3, 0, 1};
        for (int i = 0; i < due.length; i++) {
            c.is("feedAt " + i + " by heat, then by number", x.feedAt(0, i), due[i]);
        }
        c.noIndex("feedAt behind the last one", () -> x.feedAt(0, 6));
        x.order(1, 5, 0);
        x.obey(0);
        c.is("feedAt where it is withheld", x.feedAt(1, 0), 2);
        c.is("feedAt where it is not", x.feedAt(2, 0), 5);
        c.noIndex("feedAt the place that was the last one", () -> x.feedAt(1, 5));
        x.decide(0, 1, 0);
        c.is("feedSize without one removed", x.feedSize(0), 5);
        c.is("feedSize without one removed and one withheld", x.feedSize(1), 4);
    }

    private static void shares(Check c) {
        ModHouse x = Houses.ruled(2, 'l', 0);
        for (int i = 0; i < 3; i++) {
            x.post(0, 1);
            Houses.decided(x, 1, i, 0);
        }
        c.is("standShare of all", x.standShare(), 1.0f);
        x.takeBack(0);
        c.is("standShare of 2 in 3, by floats", x.standShare(), 2.0f / 3.0f);
        x.takeBack(1);
        c.is("standShare of 1 in 3, by floats", x.standShare(), 1.0f / 3.0f);
        x.takeBack(2);
        c.is("standShare of none in 3", x.standShare(), 0.0f);
        ModHouse y = Houses.ruled(3, 'l', 0);
        y.post(0, 1);
        Houses.decided(y, 1, 0, 0);
        c.is("meanWeight of 32 by 3, by doubles", y.meanWeight(), 32.0 / 3.0);
        y.join(1, 2);
        c.is("meanWeight of 30 by 3", y.meanWeight(), 10.0);
    }
}

/** Days: the last one on which something counts, and the one behind it. */
final class DaysTest {
    private DaysTest() {
    }

    static void run(Check c) {
        daysThatPass(c);
        versionsFromADay(c);
        versionsOfOneDay(c);
        strikesOfADecision(c);
        strikesOfALaterCopy(c);
        strikesOfASpreading(c);
        bansByDays(c);
        daysOfAppeals(c);
        daysOfAppealsAreTheDecisions(c);
        ordersByDays(c);
        limitsByDays(c);
        regimesByDays(c);
        regimesOfTheDayOfAnEdit(c);
        viewsOfAWeek(c);
        viewsOfEachDay(c);
        daysThatReportsWaited(c);
    }

    private static void daysThatPass(Check c) {
        ModHouse x = new ModHouse();
        c.noArgument("pass(0)", () -> x.pass(0));
        c.is("pass(1) from the day 0", x.pass(1), 1);
        c.is("pass(60)", x.pass(60), 61);
        c.noArgument("pass(61)", () -> x.pass(61));
        c.is("pass(1) behind what was refused", x.pass(1), 62);
    }

    /** Posts of the days 0 to 4, a rule with versions from the days 1 and 3. */
    private static void versionsFromADay(Check c) {
        ModHouse x = Houses.withAccounts(1);
        for (int day = 0; day < 5; day++) {
            if (day == 1) {
                x.addRule(1, 0, 'l', 0);
            }
            if (day == 3) {
                x.change(0, 2, 0, 'n', 0);
            }
            x.post(0, 1);
            x.post(0, 2);
            x.pass(1);
        }
        c.noElement("breaks on the day ahead of the first version", () -> x.breaks(0, 0));
        c.is("breaks on the first day of the first version", x.breaks(2, 0), true);
        c.is("breaks on the last day of the first version", x.breaks(4, 0), true);
        c.is("breaks on the last day of the first version, other marks", x.breaks(5, 0), false);
        c.is("breaks on the first day of the second version", x.breaks(6, 0), false);
        c.is("breaks on the first day of the second version, other marks", x.breaks(7, 0), true);
        c.is("breaks on a later day", x.breaks(9, 0), true);
    }

    private static void versionsOfOneDay(Check c) {
        ModHouse x = Houses.withAccounts(1);
        x.post(0, 1);
        x.addRule(2, 0, 'l', 0);
        c.is("breaks of what was posted ahead of the rule on its day", x.breaks(0, 0), false);
        c.is("change on the day of the first version", x.change(0, 1, 0, 'l', 0), 1);
        c.is("breaks by what took the place", x.breaks(0, 0), true);
        x.pass(1);
        c.is("change on the next day", x.change(0, 4, 0, 'l', 0), 2);
        c.is("breaks by the version of its day still", x.breaks(0, 0), true);
        c.is("change on that day again", x.change(0, 8, 0, 'l', 0), 2);
        x.pass(1);
        c.is("change on the day behind it", x.change(0, 8, 0, 'l', 0), 3);
    }

    private static void strikesOfADecision(Check c) {
        ModHouse x = Houses.ruled(3, 'n', 1);
        x.pass(7);
        x.post(0, 1);
        x.pass(3);
        Houses.decided(x, 1, 0, 0);
        c.is("strikes on the day of the decision", x.strikes(0), 1);
        Houses.pass(x, 89);
        c.is("strikes 89 days behind the decision", x.strikes(0), 1);
        x.pass(1);
        c.is("strikes 90 days behind the decision", x.strikes(0), 0);
        c.is("stateOf, which does not age", x.stateOf(0), 'n');
        x.pass(60);
        c.is("strikes long behind it", x.strikes(0), 0);
    }

    private static void strikesOfALaterCopy(Check c) {
        ModHouse x = Houses.ruled(4, 'n', 1);
        x.post(0, 1);
        x.pass(2);
        x.copy(1, 0);
        x.pass(2);
        Houses.decided(x, 2, 0, 0);
        x.pass(5);
        x.copy(3, 0);
        c.is("strikes of the copy on its day", x.strikes(3), 1);
        Houses.pass(x, 84);
        c.is("strikes of what was copied ahead of the decision, 89 days behind it", x.strikes(1), 1);
        x.pass(1);
        c.is("strikes of what was copied ahead of the decision, 90 days behind it", x.strikes(1), 0);
        c.is("strikes of the later copy, 85 days behind it", x.strikes(3), 1);
        x.pass(4);
        c.is("strikes of the later copy, 89 days behind it", x.strikes(3), 1);
        x.pass(1);
        c.is("strikes of the later copy, 90 days behind it", x.strikes(3), 0);
    }

    private static void strikesOfASpreading(Check c) {
        ModHouse x = Houses.ruled(4, 'n', 1);
        x.post(0, 1);
        x.post(1, 1);
        int d = Houses.decided(x, 2, 0, 0);
        Houses.pass(x, 100);
        x.spread(d);
        c.is("strikes of the decided one, not again", x.strikes(0), 0);
        c.is("strikes on the day of the spreading", x.strikes(1), 1);
        Houses.pass(x, 89);
        c.is("strikes 89 days behind the spreading", x.strikes(1), 1);
        x.pass(1);
        c.is("strikes 90 days behind the spreading", x.strikes(1), 0);
    }

    private static void bansByDays(Check c) {
        ModHouse x = Houses.ruled(3, 'n', 2);
        x.post(0, 1);
        Houses.decided(x, 1, 0, 0);
        x.pass(1);
        x.change(0, 1, 0, 'n', 1);
        x.post(0, 1);
        Houses.decided(x, 1, 1, 0);
        c.is("isBanned by 2 and 1 strikes", x.isBanned(0), true);
        Houses.pass(x, 88);
        c.is("isBanned as both count", x.isBanned(0), true);
        c.notAllowed("post as both count", () -> x.post(0, 0));
        x.pass(1);
        c.is("isBanned as the first ones count no more", x.isBanned(0), false);
        c.is("strikes as the first ones count no more", x.strikes(0), 1);
        c.is("post as the first ones count no more", x.post(0, 0), 2);
    }

    private static void daysOfAppeals(Check c) {
        for (int days = 0; days < 14; days++) {
            ModHouse x = Houses.ruled(2, 'l', 0);
            x.pass(3);
            x.post(0, 1);
            int d = Houses.decided(x, 1, 0, 0);
            if (days > 0) {
                x.pass(days);
            }
            c.is("appeal " + days + " days behind", x.appeal(d, 0), 13 - days);
        }
        ModHouse x = Houses.ruled(2, 'l', 0);
        x.pass(3);
        x.post(0, 1);
        int d = Houses.decided(x, 1, 0, 0);
        x.pass(14);
        c.noState("appeal 14 days behind", () -> x.appeal(d, 0));
        x.pass(60);
        c.noState("appeal long behind", () -> x.appeal(d, 0));
    }

    private static void daysOfAppealsAreTheDecisions(Check c) {
        ModHouse x = Houses.ruled(5, 'l', 0);
        x.post(0, 1);
        x.post(1, 1);
        x.post(2, 3);
        int d = Houses.decided(x, 3, 0, 0);
        int e = Houses.decided(x, 3, 2, 0);
        x.pass(12);
        x.spread(d);
        x.copy(4, 2);
        x.pass(1);
        c.is("appeal on the last day by one to whom it spread", x.appeal(d, 1), 0);
        x.pass(1);
        c.noState("appeal behind it by one who copied later", () -> x.appeal(e, 4));
        c.is("hear what was appealed on the last day", x.hear(d, 1, true), false);
    }

    private static void ordersByDays(Check c) {
        ModHouse x = Houses.withAccounts(1);
        x.post(0, 0);
        x.pass(2);
        x.order(0, 0, 0);
        x.order(1, 0, 30);
        x.order(2, 0, 30);
        c.is("late on the day of an order for today", x.late(), 0);
        x.pass(1);
        c.is("late on the day behind it", x.late(), 1);
        c.is("obey on the day behind it", x.obey(0), 1);
        c.is("late as it is obeyed", x.late(), 0);
        x.pass(29);
        c.is("late on the 30th day", x.late(), 0);
        c.is("obey on the 30th day", x.obey(1), 0);
        x.pass(1);
        c.is("late on the 31st day", x.late(), 1);
        c.is("obey on the 31st day", x.obey(2), 1);
        c.is("late as all are obeyed", x.late(), 0);
        x.order(0, 0, 5);
        c.is("obey ahead of the day", x.obey(3), 0);
        x.pass(6);
        c.is("late behind the day of what was obeyed ahead of it", x.late(), 0);
    }

    private static void limitsByDays(Check c) {
        ModHouse x = Houses.withAccounts(2);
        x.addModerator(255, 1);
        x.addRule(1, 0, 'l', 0);
        for (int i = 0; i < 3; i++) {
            x.post(0, 1);
            x.report(1, i, 0);
        }
        c.is("decide today", x.decide(0, 0, -1), 0);
        c.notAllowed("decide again today", () -> x.decide(0, 1, -1));
        x.pass(1);
        c.is("decide on the next day", x.decide(0, 1, -1), 1);
        c.notAllowed("decide again on the next day", () -> x.decide(0, 2, -1));
        x.pass(60);
        c.is("next many days later", x.next(0), 2);
    }

    /** Posts of the days 0 to 4 under a regime from the day 1 to the day 3, told on the day 5. */
    private static void regimesByDays(Check c) {
        ModHouse x = Houses.ruled(2, 'l', 0);
        for (int day = 0; day < 5; day++) {
            x.post(0, 1 + (2 << day));
            x.pass(1);
        }
        for (int post = 0; post < 5; post++) {
            Houses.decided(x, 1, post, 0);
        }
        x.regime(0, 'n', 1, 3);
        c.is("stateOf on the day ahead of it", x.stateOf(0), 'l');
        c.is("stateOf on its first day", x.stateOf(1), 'n');
        c.is("stateOf on a day of it", x.stateOf(2), 'n');
        c.is("stateOf on its last day", x.stateOf(3), 'n');
        c.is("stateOf on the day behind it", x.stateOf(4), 'l');
        x.regime(0, 'r', 2, 2);
        c.is("stateOf on the day ahead of one day", x.stateOf(1), 'n');
        c.is("stateOf on the one day", x.stateOf(2), 'r');
        c.is("stateOf on the day behind one day", x.stateOf(3), 'n');
        x.regime(0, 'l', 0, 9);
        c.is("stateOf under one that is less", x.stateOf(2), 'r');
        c.is("stateOf under one that is the same", x.stateOf(0), 'l');
    }

    private static void regimesOfTheDayOfAnEdit(Check c) {
        ModHouse x = Houses.ruled(3, 'l', 0);
        x.regime(0, 'n', 1, 1);
        x.post(0, 1);
        x.post(0, 3);
        x.pass(1);
        x.edit(0, 1);
        x.copy(2, 1);
        x.pass(1);
        Houses.decided(x, 1, 0, 0);
        Houses.decided(x, 1, 1, 0);
        c.is("stateOf of what was edited on the day", x.stateOf(0), 'n');
        c.is("stateOf of what was posted ahead of the day", x.stateOf(1), 'l');
        c.is("stateOf of its copy, posted on the day", x.stateOf(2), 'n');
    }

    private static void viewsOfAWeek(Check c) {
        ModHouse x = Houses.withAccounts(1);
        x.post(0, 0);
        x.view(0, 0, 5);
        c.is("heat on the day", x.heat(0), 5);
        for (int days = 1; days < 7; days++) {
            x.pass(1);
            c.is("heat " + days + " days later", x.heat(0), 5);
        }
        x.pass(1);
        c.is("heat 7 days later", x.heat(0), 0);
        c.is("seen 7 days later", x.seen(0), 5);
        int[] passes = {6, 7, 8, 13, 14, 15, 60};
        for (int days : passes) {
            x.view(0, 0, 3);
            x.pass(days);
            c.is("heat " + days + " days later by one call", x.heat(0), days < 7 ? 3 : 0);
            x.pass(7);
        }
    }

    /** On each day as many see it as the day has a number: those of a week are told. */
    private static void viewsOfEachDay(Check c) {
        ModHouse x = Houses.ruled(2, 'n', 0);
        x.post(0, 1);
        int day = 0;
        for (int i = 0; i < 20; i++) {
            day = x.pass(1);
            x.view(0, i % 3, day);
            int due = 0;
            for (int j = Math.max(0, day - 6); j <= day; j++) {
                due += j;
            }
            c.is("heat on the day " + day, x.heat(0), due);
        }
        Houses.decided(x, 1, 0, 0);
        c.is("heat of 14 to 20, narrowed", x.heat(0), 59);
        x.pass(1);
        c.is("heat of 15 to 20, narrowed: half of 105, rounded down", x.heat(0), 52);
    }

    private static void daysThatReportsWaited(Check c) {
        ModHouse x = Houses.ruled(4, 'l', 0);
        x.addRule(1, 0, 'l', 0);
        x.post(0, 1);
        x.pass(2);
        Houses.decided(x, 1, 0, 0);
        c.is("t of a report of the same day", x.numberOf(0, 't'), 0);
        x.report(1, 0, 1);
        x.pass(1);
        x.report(2, 0, 0);
        x.pass(60);
        x.decide(1, 0, 0);
        c.is("t from the first report, by another rule", x.numberOf(0, 't'), 61);
        x.report(2, 0, 1);
        x.pass(1);
        x.decide(1, 0, 1);
        c.is("t of the other rule", x.numberOf(1, 't'), 1);
        c.is("t of the rule still", x.numberOf(0, 't'), 61);
    }
}

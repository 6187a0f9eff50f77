/** Promises 11 to 14: reports, pressure and the queue. */
final class ReportsTest {
    private ReportsTest() {
    }

    static void run(Check c) {
        reports(c);
        reportsThatAreRefused(c);
        reportsOnceForEdits(c);
        eightyReports(c);
        pressures(c);
        pressureOfAll(c);
        queue(c);
        harmOfReportsThatWait(c);
    }

    private static void reports(Check c) {
        ModHouse x = Houses.ruled(4, 'n', 0);
        x.addRule(2, 0, 'r', 0);
        x.post(0, 1);
        c.is("report(1, 0, 0)", x.report(1, 0, 0), 10);
        c.is("report(1, 0, 1) by one who has one that waits", x.report(1, 0, 1), 10);
        c.is("report(2, 0, 1)", x.report(2, 0, 1), 20);
        c.noIndex("report(4, 0, 0)", () -> x.report(4, 0, 0));
        c.noIndex("report(-1, 0, 0)", () -> x.report(-1, 0, 0));
        c.noIndex("report(1, 1, 0)", () -> x.report(1, 1, 0));
        c.noIndex("report(1, -1, 0)", () -> x.report(1, -1, 0));
        c.noIndex("report(1, 0, 2)", () -> x.report(1, 0, 2));
        c.noIndex("report(0, 0, -1) of an own post", () -> x.report(0, 0, -1));
        x.pass(1);
        x.addRule(1, 0, 'r', 0);
        c.is("report by a rule that does not bind it", x.report(3, 0, 2), 30);
    }

    private static void reportsThatAreRefused(Check c) {
        ModHouse x = Houses.ruled(5, 'n', 3);
        x.post(0, 1);
        x.post(4, 0);
        c.notAllowed("report of an own post", () -> x.report(0, 0, 0));
        x.report(1, 0, 0);
        c.notAllowed("report again", () -> x.report(1, 0, 0));
        x.decide(0, 0, 0);
        c.notAllowed("report again behind a decision", () -> x.report(1, 0, 0));
        c.is("report of one that is narrowed", x.report(2, 0, 0), 10);
        c.notAllowed("report by one who is banned", () -> x.report(0, 1, 0));
        x.addRule(1, 0, 'r', 0);
        x.decide(0, 0, -1);
        Houses.decided(x, 1, 0, 1);
        c.notAllowed("report of one that is removed", () -> x.report(3, 0, 0));
        c.is("pressure(0)", x.pressure(0), 0);
    }

    private static void reportsOnceForEdits(Check c) {
        ModHouse x = Houses.ruled(3, 'n', 0);
        x.post(0, 1);
        x.report(1, 0, 0);
        x.decide(0, 0, -1);
        x.edit(0, 3);
        c.notAllowed("report of what was edited then", () -> x.report(1, 0, 0));
        c.is("report by another", x.report(2, 0, 0), 10);
    }

    private static void eightyReports(Check c) {
        ModHouse x = Houses.ruled(11, 'l', 0);
        x.setScore(0, 0, 1);
        x.setThreshold(0, 1);
        for (int post = 0; post < 9; post++) {
            x.post(0, post % 2);
        }
        for (int i = 0; i < 80; i++) {
            x.report(1 + i % 10, i / 10, 0);
        }
        c.is("all reports, those of the classifier too", x.numberOf(0, 'r'), 84);
        c.noState("report beyond 80", () -> x.report(1, 8, 0));
        c.notAllowed("report of an own post beyond 80", () -> x.report(0, 8, 0));
        x.decide(0, 0, 0);
        c.noState("report beyond 80 that wait no more", () -> x.report(1, 8, 0));
        c.is("post that a classifier reports beyond 80", x.post(0, 1), 9);
        c.is("pressure by the classifier beyond 80", x.pressure(9), 10);
    }

    private static void pressures(Check c) {
        ModHouse x = Houses.ruled(5, 'l', 0);
        x.setScore(0, 0, 5);
        x.setThreshold(0, 5);
        x.post(0, 1);
        c.is("pressure by a classifier", x.pressure(0), 10);
        x.report(1, 0, 0);
        x.report(2, 0, 0);
        c.is("pressure by two persons and a classifier", x.pressure(0), 30);
        x.join(1, 2);
        c.is("pressure by one person and a classifier", x.pressure(0), 20);
        x.post(0, 0);
        x.report(1, 1, 0);
        x.decide(0, 1, -1);
        c.is("pressure by a person with less weight now", x.pressure(0), 17);
        x.post(1, 1);
        Houses.decided(x, 3, 2, 0);
        x.decide(0, 0, 0);
        c.is("pressure when all are done", x.pressure(0), 0);
        c.noIndex("pressure(3)", () -> x.pressure(3));
        c.noIndex("pressure(-1)", () -> x.pressure(-1));
    }

    private static void pressureOfAll(Check c) {
        ModHouse x = Houses.withAccounts(12);
        for (int i = 0; i < 6; i++) {
            x.addRule(1, 0, 'l', 0);
            x.setScore(i, 0, 1);
            x.setThreshold(i, 1);
        }
        x.post(5, 1);
        for (int i = 0; i < 12; i++) {
            if (i != 5) {
                x.report(i, 0, i % 6);
            }
        }
        c.is("pressure by 11 persons and 6 classifiers", x.pressure(0), 170);
        x.report(0, 0, 5);
        c.is("pressure by the same again, not one behind the other", x.pressure(0), 170);
    }

    private static void queue(Check c) {
        ModHouse x = Houses.ruled(6, 'l', 0);
        x.addRule(1, 0, 'n', 0);
        x.addRule(1, 0, 'r', 0);
        x.post(0, 1);
        x.pass(1);
        x.addRule(1, 0, 'r', 0);
        for (int i = 1; i < 6; i++) {
            x.post(0, 1);
        }
        c.noIndex("queueAt(0) of none", () -> x.queueAt(0));
        x.report(1, 0, 3);
        c.is("queued() by a rule that does not bind", x.queued(), 1);
        x.report(1, 5, 0);
        x.report(1, 3, 1);
        x.report(1, 4, 0);
        x.report(2, 4, 0);
        x.report(1, 2, 0);
        x.report(1, 1, 2);
        c.is("queued()", x.queued(), 6);
        c.is("queueAt(0) by harm r", x.queueAt(0), 1);
        c.is("queueAt(1) by harm n", x.queueAt(1), 3);
        c.is("queueAt(2) by pressure", x.queueAt(2), 4);
        c.is("queueAt(3) by number", x.queueAt(3), 2);
        c.is("queueAt(4) by number", x.queueAt(4), 5);
        c.is("queueAt(5) without harm", x.queueAt(5), 0);
        c.noIndex("queueAt(6)", () -> x.queueAt(6));
        c.noIndex("queueAt(-1)", () -> x.queueAt(-1));
        x.decide(0, 1, -1);
        c.is("queued() when one is decided", x.queued(), 5);
        c.is("queueAt(0) when one is decided", x.queueAt(0), 3);
        x.regime(0, 'r', 1, 1);
        c.is("queueAt(0) under a regime", x.queueAt(0), 4);
    }

    private static void harmOfReportsThatWait(Check c) {
        ModHouse x = Houses.ruled(4, 'r', 0);
        x.addRule(1, 0, 'l', 0);
        x.addRule(1, 0, 'n', 0);
        x.post(0, 1);
        x.post(0, 1);
        x.report(1, 0, 0);
        x.decide(0, 0, -1);
        x.report(1, 0, 1);
        x.report(2, 1, 2);
        c.is("a report that is done gives no harm", x.queueAt(0), 1);
        x.report(3, 0, 2);
        c.is("the greatest harm, then pressure", x.queueAt(0), 0);
    }
}

/** Promises 23 to 27: appeals, hearings, juries and votes. */
final class AppealsTest {
    private AppealsTest() {
    }

    static void run(Check c) {
        appeals(c);
        appealsAtTheLastDay(c);
        hearings(c);
        weightsWhenOverturned(c);
        juries(c);
        jurorsWhoCanNotBeDrawn(c);
        juriesOfOnePersonEach(c);
        juriesOfThose(c);
        votes(c);
    }

    private static void appeals(Check c) {
        ModHouse x = Houses.ruled(5, 'r', 3);
        x.post(0, 1);
        x.copy(1, 0);
        int d = Houses.decided(x, 2, 0, 0);
        c.noIndex("appeal(1, 0)", () -> x.appeal(1, 0));
        c.noIndex("appeal(-1, 0)", () -> x.appeal(-1, 0));
        c.noIndex("appeal(0, 5)", () -> x.appeal(0, 5));
        c.noIndex("appeal(0, -1)", () -> x.appeal(0, -1));
        c.notAllowed("appeal by one without posts", () -> x.appeal(d, 3));
        x.post(4, 1);
        c.notAllowed("appeal by one on none of whose posts it acts", () -> x.appeal(d, 4));
        x.join(3, 1);
        x.pass(2);
        c.is("isBanned(3)", x.isBanned(3), true);
        c.is("appeal by another account of a person who is banned", x.appeal(d, 3), 11);
        c.notAllowed("appeal again by another person", () -> x.appeal(d, 0));
        c.is("stands as long as it is not heard", x.stands(d), true);
        x.hear(d, 1, false);
        c.notAllowed("appeal again when it was heard", () -> x.appeal(d, 0));
        x.report(2, 2, 0);
        int none = x.decide(0, 2, -1);
        c.notAllowed("appeal against one by none", () -> x.appeal(none, 4));
    }

    private static void appealsAtTheLastDay(Check c) {
        ModHouse x = Houses.ruled(3, 'l', 0);
        x.pass(4);
        x.post(0, 1);
        x.post(0, 1);
        int first = Houses.decided(x, 1, 0, 0);
        int second = Houses.decided(x, 1, 1, 0);
        x.pass(13);
        c.is("appeal on the last day", x.appeal(first, 0), 0);
        x.pass(1);
        c.noState("appeal too late", () -> x.appeal(second, 0));
        c.notAllowed("appeal too late by another", () -> x.appeal(second, 2));
        c.is("hear when it is late", x.hear(first, 1, true), false);
    }

    private static void hearings(Check c) {
        ModHouse x = Houses.ruled(12, 'r', 2);
        x.addModerator(0, 1);
        x.post(0, 1);
        x.copy(1, 0);
        int d = Houses.decided(x, 2, 0, 0);
        c.notAllowed("hear without an appeal", () -> x.hear(d, 1, true));
        x.appeal(d, 0);
        c.noIndex("hear(1, 1)", () -> x.hear(1, 1, true));
        c.noIndex("hear(-1, 1)", () -> x.hear(-1, 1, true));
        c.noIndex("hear(0, 3)", () -> x.hear(0, 3, true));
        c.noIndex("hear(0, -1)", () -> x.hear(0, -1, true));
        c.notAllowed("hear by the one who decided", () -> x.hear(d, 0, true));
        c.is("hear by one who may see nothing", x.hear(d, 2, true), false);
        c.is("stands", x.stands(d), false);
        c.is("stateOf(1)", x.stateOf(1), '-');
        c.is("strikes(1)", x.strikes(1), 0);
        c.notAllowed("hear again", () -> x.hear(d, 1, true));
        x.post(3, 3);
        int e = Houses.decided(x, 4, 2, 0);
        x.appeal(e, 3);
        c.is("hear and uphold", x.hear(e, 1, false), true);
        c.is("stateOf(2)", x.stateOf(2), 'r');
        c.is("weight(4) is kept", x.weight(4), 12);
        x.post(5, 7);
        int f = Houses.decided(x, 4, 3, 0);
        x.appeal(f, 5);
        x.jury(f);
        c.notAllowed("hear what is before a jury", () -> x.hear(f, 1, true));
    }

    private static void weightsWhenOverturned(Check c) {
        ModHouse x = Houses.ruled(6, 'l', 0);
        x.addRule(1, 0, 'l', 0);
        x.setScore(0, 0, 1);
        x.setThreshold(0, 1);
        x.post(0, 1);
        x.report(1, 0, 0);
        x.report(2, 0, 0);
        x.report(3, 0, 1);
        int d = x.decide(0, 0, 0);
        x.report(4, 0, 0);
        x.join(1, 2);
        x.appeal(d, 0);
        x.hear(d, 1, true);
        c.is("5 less, once for a person of now", x.weight(1), 7);
        c.is("nothing for a report by another rule", x.weight(3), 7);
        c.is("nothing for a report that was not done by it", x.weight(4), 10);
        c.is("5 less for the classifier", x.machineWeight(0), 7);
        ModHouse z = Houses.ruled(4, 'l', 0);
        z.post(3, 1);
        z.report(0, 0, 0);
        z.report(1, 0, 0);
        z.report(2, 0, 0);
        z.decide(0, 0, 0);
        z.join(2, 0);
        z.appeal(0, 3);
        z.hear(0, 1, true);
        c.is("5 less, once, not one behind the other", z.weight(0), 7);
        c.is("5 less for the other person", z.weight(1), 7);
        ModHouse y = Houses.ruled(3, 'l', 0);
        for (int i = 0; i < 3; i++) {
            y.post(0, 2);
            y.report(1, i, 0);
            y.decide(0, i, -1);
        }
        y.post(0, 1);
        int e = Houses.decided(y, 1, 3, 0);
        c.is("weight(1)", y.weight(1), 3);
        y.appeal(e, 0);
        y.hear(e, 1, true);
        c.is("at least 1", y.weight(1), 1);
    }

    /** The lots are 48271, then 182605794, then 1291394886 and 1914720637. */
    private static void juries(Check c) {
        ModHouse x = Houses.ruled(7, 'l', 0);
        x.post(0, 1);
        x.post(0, 3);
        int d = Houses.decided(x, 1, 0, 0);
        c.noIndex("jury(1)", () -> x.jury(1));
        c.noIndex("jury(-1)", () -> x.jury(-1));
        c.notAllowed("jury without an appeal", () -> x.jury(d));
        c.noElement("jurorAt without a jury", () -> x.jurorAt(d, 0));
        x.appeal(d, 0);
        c.is("jury: 48271 modulo 5 is 1 of 2 3 4 5 6", x.jury(d), 3);
        c.is("jurorAt(0)", x.jurorAt(d, 0), 3);
        c.is("jurorAt(1): 182605794 modulo 4 is 2 of 2 4 5 6", x.jurorAt(d, 1), 5);
        c.is("jurorAt(2): 1291394886 modulo 3 is 0 of 2 4 6", x.jurorAt(d, 2), 2);
        c.notAllowed("jury again", () -> x.jury(d));
        c.noIndex("jurorAt(1, 0)", () -> x.jurorAt(1, 0));
        c.noIndex("jurorAt(-1, 3)", () -> x.jurorAt(-1, 3));
        c.noArgument("jurorAt(0, 3)", () -> x.jurorAt(d, 3));
        c.noArgument("jurorAt(0, -1)", () -> x.jurorAt(d, -1));
        int e = Houses.decided(x, 1, 1, 0);
        x.appeal(e, 0);
        c.noArgument("jurorAt of no such index without a jury", () -> x.jurorAt(e, 3));
        c.is("jury: 1914720637 modulo 5 is 2 of 2 3 4 5 6", x.jury(e), 4);
        x.takeBack(e);
        c.is("jurorAt when it was taken back", x.jurorAt(e, 0), 4);
        x.join(5, 4);
        c.is("jurorAt as it was drawn, by a person who is one with account 4", x.jurorAt(d, 1), 5);
        c.is("vote of such a juror", x.vote(d, 1, true), '?');
    }

    private static void jurorsWhoCanNotBeDrawn(Check c) {
        ModHouse x = Houses.ruled(8, 'l', 3);
        x.addRule(1, 0, 'l', 0);
        x.post(0, 1);
        x.copy(1, 0);
        x.post(2, 3);
        Houses.decided(x, 3, 2, 0);
        c.is("isBanned(2)", x.isBanned(2), true);
        x.report(4, 0, 0);
        x.report(5, 0, 1);
        int d = x.decide(0, 0, 0);
        x.report(3, 0, 0);
        x.appeal(d, 0);
        c.is("jury of 5, 6 and 7 alone", x.jury(d), 6);
        c.is("jurorAt(1) of 5 and 7", x.jurorAt(d, 1), 5);
        c.is("jurorAt(2)", x.jurorAt(d, 2), 7);
    }

    private static void juriesOfOnePersonEach(Check c) {
        ModHouse x = Houses.ruled(7, 'l', 0);
        x.post(0, 1);
        int d = Houses.decided(x, 1, 0, 0);
        x.appeal(d, 0);
        x.join(6, 2);
        x.join(5, 4);
        x.join(3, 1);
        c.noElement("jury of two persons", () -> x.jury(d));
        c.is("addAccount", x.addAccount(), 7);
        c.is("jury of 2, 4 and 7: no lot was drawn ahead", x.jury(d), 4);
        c.is("jurorAt(1) of 2 and 7", x.jurorAt(d, 1), 2);
        c.is("jurorAt(2)", x.jurorAt(d, 2), 7);
    }

    private static void juriesOfThose(Check c) {
        ModHouse x = Houses.ruled(5, 'l', 0);
        x.post(4, 1);
        x.post(0, 1);
        x.post(1, 2);
        int d = Houses.decided(x, 3, 0, 0);
        x.appeal(d, 4);
        c.is("jury of 0, 1 and 2, who have other posts", x.jury(d), 1);
        c.is("jurorAt(1) of 0 and 2", x.jurorAt(d, 1), 0);
        c.is("jurorAt(2)", x.jurorAt(d, 2), 2);
    }

    private static void votes(Check c) {
        ModHouse x = Houses.ruled(7, 'r', 0);
        x.post(0, 1);
        x.post(0, 3);
        int d = Houses.decided(x, 1, 0, 0);
        int e = Houses.decided(x, 1, 1, 0);
        c.notAllowed("vote without an appeal", () -> x.vote(d, 0, true));
        x.appeal(d, 0);
        c.notAllowed("vote without a jury", () -> x.vote(d, 0, true));
        c.noArgument("vote of no such juror without a jury", () -> x.vote(d, 3, true));
        x.jury(d);
        c.noIndex("vote(2)", () -> x.vote(2, 0, true));
        c.noIndex("vote(-1)", () -> x.vote(-1, 3, true));
        c.noArgument("vote of juror -1", () -> x.vote(d, -1, true));
        c.is("vote", x.vote(d, 2, true), '?');
        c.notAllowed("vote again", () -> x.vote(d, 2, false));
        c.is("vote alike", x.vote(d, 0, true), 'o');
        c.is("stands", x.stands(d), false);
        c.is("stateOf(0)", x.stateOf(0), '-');
        c.is("weight(1): 14, then 5 less", x.weight(1), 9);
        c.notAllowed("vote when it was heard", () -> x.vote(d, 1, true));
        c.notAllowed("jury when it was heard", () -> x.jury(d));
        x.appeal(e, 0);
        x.jury(e);
        c.is("vote", x.vote(e, 0, false), '?');
        c.is("vote otherwise", x.vote(e, 1, true), '?');
        c.is("vote alike", x.vote(e, 2, false), 's');
        c.is("stands", x.stands(e), true);
        c.is("weight(1) is kept", x.weight(1), 9);
        x.post(0, 7);
        int f = Houses.decided(x, 1, 2, 0);
        x.appeal(f, 0);
        x.jury(f);
        x.vote(f, 0, true);
        x.takeBack(f);
        c.notAllowed("vote when it was taken back", () -> x.vote(f, 1, true));
    }
}

/** Promises 52 to 55: numbers by rule, shares, means, and soundness. */
final class NumbersTest {
    private NumbersTest() {
    }

    static void run(Check c) {
        decisions(c);
        actedOn(c);
        reports(c);
        daysWaited(c);
        daysWaitedByTheFirstDecision(c);
        noSuchNumbers(c);
        shares(c);
        means(c);
        soundness(c);
    }

    private static void decisions(Check c) {
        ModHouse x = Houses.ruled(3, 'l', 0);
        x.addRule(1, 0, 'l', 0);
        for (int i = 0; i < 6; i++) {
            x.post(0, i + 1);
        }
        c.is("d at first", x.numberOf(0, 'd'), 0);
        for (int i = 0; i < 4; i++) {
            Houses.decided(x, 1, i, 0);
        }
        Houses.decided(x, 1, 4, 1);
        x.report(1, 5, 0);
        x.decide(0, 5, -1);
        x.appeal(0, 0);
        x.hear(0, 1, true);
        x.takeBack(1);
        x.appeal(2, 0);
        x.takeBack(2);
        c.is("d", x.numberOf(0, 'd'), 4);
        c.is("s", x.numberOf(0, 's'), 1);
        c.is("o", x.numberOf(0, 'o'), 1);
        c.is("b", x.numberOf(0, 'b'), 2);
        c.is("d by the other rule", x.numberOf(1, 'd'), 1);
        c.is("s by the other rule", x.numberOf(1, 's'), 1);
        c.is("o by the other rule", x.numberOf(1, 'o'), 0);
        c.is("b by the other rule", x.numberOf(1, 'b'), 0);
    }

    private static void actedOn(Check c) {
        ModHouse x = Houses.ruled(4, 'l', 0);
        x.post(0, 1);
        x.copy(1, 0);
        x.post(0, 1);
        x.post(0, 0);
        int d = Houses.decided(x, 2, 0, 0);
        int e = Houses.decided(x, 2, 1, 0);
        c.is("a, each once", x.numberOf(0, 'a'), 2);
        x.addRule(1, 0, 'l', 0);
        c.is("a of another rule", x.numberOf(1, 'a'), 0);
        x.spread(d);
        c.is("a with one by spreading", x.numberOf(0, 'a'), 3);
        x.takeBack(d);
        c.is("a by the other decision", x.numberOf(0, 'a'), 2);
        x.takeBack(e);
        c.is("a by none that stands", x.numberOf(0, 'a'), 0);
    }

    private static void reports(Check c) {
        ModHouse x = Houses.ruled(4, 'l', 0);
        x.addRule(1, 0, 'l', 0);
        x.setScore(0, 0, 1);
        x.setThreshold(0, 1);
        x.post(0, 1);
        x.post(0, 1);
        x.report(1, 0, 0);
        x.report(1, 0, 1);
        x.report(2, 1, 0);
        x.join(1, 2);
        c.is("r", x.numberOf(0, 'r'), 4);
        c.is("w", x.numberOf(0, 'w'), 4);
        c.is("m", x.numberOf(0, 'm'), 2);
        x.decide(0, 0, 1);
        c.is("r behind a decision", x.numberOf(0, 'r'), 4);
        c.is("w behind a decision", x.numberOf(0, 'w'), 2);
        c.is("m behind a decision", x.numberOf(0, 'm'), 2);
        c.is("r by the other rule", x.numberOf(1, 'r'), 1);
        c.is("w by the other rule", x.numberOf(1, 'w'), 0);
        c.is("m by the other rule", x.numberOf(1, 'm'), 0);
    }

    private static void daysWaited(Check c) {
        ModHouse x = Houses.ruled(4, 'l', 0);
        x.addRule(1, 0, 'l', 0);
        x.post(0, 1);
        x.post(0, 1);
        Houses.decided(x, 1, 1, 0);
        c.is("t of a decision on the same day", x.numberOf(0, 't'), 0);
        x.report(1, 0, 1);
        x.pass(3);
        x.report(1, 0, 0);
        x.pass(2);
        x.decide(0, 0, 0);
        c.is("t from the first report by whatever rule", x.numberOf(0, 't'), 5);
        c.is("t of the other rule", x.numberOf(1, 't'), 0);
        x.report(2, 0, 0);
        x.pass(4);
        x.decide(0, 0, 0);
        c.is("t of two decisions: what was done waits no more", x.numberOf(0, 't'), 9);
        x.takeBack(1);
        c.is("t also of what was taken back", x.numberOf(0, 't'), 9);
        x.report(3, 0, 0);
        x.pass(1);
        x.decide(0, 0, -1);
        c.is("t without those by none", x.numberOf(0, 't'), 9);
        x.setScore(1, 1, 1);
        x.setThreshold(1, 1);
        x.post(0, 2);
        x.pass(2);
        x.report(1, 2, 0);
        x.decide(0, 2, 0);
        c.is("t from the report of a classifier", x.numberOf(0, 't'), 11);
    }

    private static void daysWaitedByTheFirstDecision(Check c) {
        ModHouse x = Houses.ruled(2, 'l', 0);
        x.post(0, 1);
        x.report(1, 0, 0);
        x.pass(6);
        x.decide(0, 0, 0);
        c.is("t of the first decision of all", x.numberOf(0, 't'), 6);
    }

    private static void noSuchNumbers(Check c) {
        ModHouse x = Houses.ruled(1, 'l', 0);
        c.noIndex("numberOf(1, d)", () -> x.numberOf(1, 'd'));
        c.noIndex("numberOf(-1, x)", () -> x.numberOf(-1, 'x'));
        c.noArgument("numberOf(0, x)", () -> x.numberOf(0, 'x'));
        c.noArgument("numberOf(0, -)", () -> x.numberOf(0, '-'));
        c.noArgument("numberOf(0, D)", () -> x.numberOf(0, 'D'));
        String all = "dsobarwmt";
        for (int i = 0; i < all.length(); i++) {
            c.is("numberOf(0, " + all.charAt(i) + ")", x.numberOf(0, all.charAt(i)), 0);
        }
    }

    private static void shares(Check c) {
        ModHouse x = Houses.ruled(2, 'l', 0);
        c.fails("standShare() of none", ArithmeticException.class, () -> x.standShare());
        x.post(0, 1);
        x.post(0, 1);
        x.post(0, 1);
        x.report(1, 0, 0);
        x.decide(0, 0, -1);
        c.fails("standShare() of one by none", ArithmeticException.class, () -> x.standShare());
        int d = Houses.decided(x, 1, 1, 0);
        c.is("standShare()", x.standShare(), 1.0f);
        Houses.decided(x, 1, 2, 0);
        c.is("standShare() of 2", x.standShare(), 1.0f);
        x.post(0, 1);
        Houses.decided(x, 1, 3, 0);
        x.takeBack(d);
        c.is("standShare() of 2 in 3", x.standShare(), 2.0f / 3.0f);
        ModHouse y = Houses.ruled(2, 'l', 0);
        y.post(0, 1);
        Houses.decided(y, 1, 0, 0);
        c.is("standShare() of the first one", y.standShare(), 1.0f);
        y.takeBack(0);
        c.is("standShare() of none in 1", y.standShare(), 0.0f);
    }

    private static void means(Check c) {
        ModHouse x = Houses.ruled(0, 'l', 0);
        c.fails("meanWeight() of none", ArithmeticException.class, () -> x.meanWeight());
        x.addAccount();
        x.addAccount();
        x.addAccount();
        c.is("meanWeight()", x.meanWeight(), 10.0);
        x.post(0, 1);
        Houses.decided(x, 1, 0, 0);
        c.is("meanWeight() of 10, 12 and 10", x.meanWeight(), 32.0 / 3.0);
        x.post(0, 1);
        x.report(2, 1, 0);
        x.decide(0, 1, -1);
        x.join(1, 2);
        c.is("meanWeight() by accounts: 10, 7 and 7", x.meanWeight(), 8.0);
    }

    private static void soundness(Check c) {
        ModHouse x = Houses.ruled(5, 'r', 1);
        x.addRule(2, 1, 'n', 0);
        x.setLikeness(2);
        x.post(0, 1);
        x.copy(1, 0);
        x.reply(2, 0, 2);
        x.post(3, 3);
        int d = Houses.decided(x, 4, 0, 0);
        c.is("isSound() behind a decision", x.isSound(), true);
        x.spread(d);
        c.is("isSound() behind a spreading", x.isSound(), true);
        x.pass(1);
        x.change(0, 4, 0, 'l', 0);
        x.regime(1, 'r', 0, 5);
        Houses.decided(x, 4, 2, 1);
        c.is("isSound() behind a change and a regime", x.isSound(), true);
        x.takeBack(d);
        x.edit(1, 7);
        c.is("isSound() behind an end and an edit", x.isSound(), true);
    }
}

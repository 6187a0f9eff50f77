/** Promises 37 to 40: classifiers, their scores, thresholds, weights and reports. */
final class ClassifiersTest {
    private ClassifiersTest() {
    }

    static void run(Check c) {
        scores(c);
        thresholds(c);
        machineWeights(c);
        reportsAsPosted(c);
        reportsBehindEdits(c);
        reportsOfRemovedCopies(c);
    }

    private static void scores(Check c) {
        ModHouse x = Houses.ruled(1, 'l', 0);
        x.post(0, 0x83);
        x.post(0, 0);
        c.noElement("score without a classifier", () -> x.score(0, 0));
        c.is("setScore(0, 0, 9)", x.setScore(0, 0, 9), 0);
        c.is("score(0, 0)", x.score(0, 0), 9);
        c.is("setScore(0, 7, -9)", x.setScore(0, 7, -9), 0);
        c.is("setScore(0, 1, 3)", x.setScore(0, 1, 3), 0);
        c.is("setScore(0, 2, 7)", x.setScore(0, 2, 7), 0);
        c.is("setScore again", x.setScore(0, 1, 4), 3);
        c.is("score(0, 0)", x.score(0, 0), 4);
        c.is("score(0, 1)", x.score(0, 1), 0);
        c.noIndex("setScore(1, 0, 0)", () -> x.setScore(1, 0, 0));
        c.noIndex("setScore(-1, 8, 0)", () -> x.setScore(-1, 8, 0));
        c.noArgument("setScore(0, 8, 0)", () -> x.setScore(0, 8, 0));
        c.noArgument("setScore(0, -1, 0)", () -> x.setScore(0, -1, 0));
        c.noArgument("setScore(0, 0, 10)", () -> x.setScore(0, 0, 10));
        c.noArgument("setScore(0, 0, -10)", () -> x.setScore(0, 0, -10));
        x.addRule(1, 0, 'l', 0);
        c.noArgument("setScore(1, 0, 10)", () -> x.setScore(1, 0, 10));
        c.noElement("score(1, 0): it has none by a call that threw", () -> x.score(1, 0));
        c.noIndex("score(2, 0)", () -> x.score(2, 0));
        c.noIndex("score(-1, 0)", () -> x.score(-1, 0));
        c.noIndex("score(0, 2)", () -> x.score(0, 2));
        c.noIndex("score(1, -1) without a classifier", () -> x.score(1, -1));
    }

    private static void thresholds(Check c) {
        ModHouse x = Houses.ruled(1, 'l', 0);
        c.noElement("setThreshold without a classifier", () -> x.setThreshold(0, 0));
        c.noArgument("setThreshold(0, 73) without a classifier", () -> x.setThreshold(0, 73));
        x.setScore(0, 0, 0);
        c.is("setThreshold(0, 72)", x.setThreshold(0, 72), 72);
        c.is("setThreshold(0, -72)", x.setThreshold(0, -72), 72);
        c.is("setThreshold(0, 0)", x.setThreshold(0, 0), -72);
        c.noArgument("setThreshold(0, 73)", () -> x.setThreshold(0, 73));
        c.noArgument("setThreshold(0, -73)", () -> x.setThreshold(0, -73));
        c.noIndex("setThreshold(1, 73)", () -> x.setThreshold(1, 73));
        c.noIndex("setThreshold(-1, 0)", () -> x.setThreshold(-1, 0));
    }

    private static void machineWeights(Check c) {
        ModHouse x = Houses.ruled(1, 'l', 0);
        x.addRule(1, 0, 'l', 0);
        c.noElement("machineWeight without a classifier", () -> x.machineWeight(0));
        c.noIndex("machineWeight(2)", () -> x.machineWeight(2));
        c.noIndex("machineWeight(-1)", () -> x.machineWeight(-1));
        x.setScore(0, 0, 1);
        x.setThreshold(0, 1);
        x.setScore(1, 0, 1);
        x.setThreshold(1, 1);
        c.is("machineWeight(0) at first", x.machineWeight(0), 10);
        for (int i = 0; i < 7; i++) {
            x.post(0, 1);
            x.decide(0, i, 0);
        }
        c.is("machineWeight(0), at most 20", x.machineWeight(0), 20);
        c.is("machineWeight(1), at least 1", x.machineWeight(1), 1);
        x.post(0, 1);
        x.decide(0, 7, -1);
        c.is("machineWeight(0) by none", x.machineWeight(0), 17);
        x.appeal(3, 0);
        x.hear(3, 1, true);
        c.is("machineWeight(0) by one overturned", x.machineWeight(0), 12);
        c.is("machineWeight(1) by one overturned of another rule", x.machineWeight(1), 1);
    }

    private static void reportsAsPosted(Check c) {
        ModHouse x = Houses.ruled(3, 'l', 0);
        x.addRule(2, 0, 'n', 0);
        x.setScore(0, 0, 3);
        x.setScore(0, 2, -1);
        x.post(0, 1);
        c.is("pressure below the first threshold", x.pressure(0), 0);
        x.setThreshold(0, 3);
        c.is("pressure on what was posted ahead of that", x.pressure(0), 0);
        x.setScore(1, 0, 1);
        x.setThreshold(1, 1);
        c.is("post", x.post(0, 1), 1);
        c.is("pressure by two classifiers", x.pressure(1), 20);
        c.is("queued()", x.queued(), 1);
        x.reply(1, 0, 5);
        c.is("pressure on a reply by one", x.pressure(2), 10);
        x.copy(2, 1);
        c.is("pressure on a copy", x.pressure(3), 20);
        x.post(0, 4);
        c.is("pressure below both thresholds", x.pressure(4), 0);
        c.is("reports of the classifier 0", x.numberOf(0, 'm'), 2);
        c.is("reports of the classifier 1", x.numberOf(1, 'm'), 3);
        x.setThreshold(0, -1);
        x.post(0, 4);
        c.is("pressure at a threshold below 0", x.pressure(5), 10);
    }

    private static void reportsBehindEdits(Check c) {
        ModHouse x = Houses.ruled(2, 'l', 0);
        x.post(0, 1);
        x.setScore(0, 0, 1);
        x.setThreshold(0, 1);
        c.is("edit", x.edit(0, 3), 1);
        c.is("pressure behind an edit", x.pressure(0), 10);
        c.notAllowed("edit as the report of a classifier waits", () -> x.edit(0, 0));
        x.decide(0, 0, -1);
        x.edit(0, 1);
        c.is("pressure behind the next edit", x.pressure(0), 7);
        c.is("reports of the classifier", x.numberOf(0, 'm'), 2);
        c.is("those that wait", x.numberOf(0, 'w'), 1);
        x.decide(0, 0, -1);
        x.edit(0, 2);
        c.is("pressure below the threshold", x.pressure(0), 0);
    }

    private static void reportsOfRemovedCopies(Check c) {
        ModHouse x = Houses.ruled(3, 'l', 0);
        x.setScore(0, 0, 1);
        x.setThreshold(0, 1);
        x.post(0, 1);
        x.decide(0, 0, 0);
        x.pass(1);
        x.change(0, 1, 0, 'r', 0);
        x.copy(1, 0);
        c.is("stateOf(1) removed as it is copied", x.stateOf(1), 'r');
        c.is("pressure(1)", x.pressure(1), 12);
        c.is("queueAt(0)", x.queueAt(0), 1);
        c.notAllowed("report by a person", () -> x.report(2, 1, 0));
        c.is("decide", x.decide(1, 1, 0), 1);
    }
}

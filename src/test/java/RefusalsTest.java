/**
 * "A method that throws an exception changes nothing. If several exceptions apply, the exception that is listed first
 * is thrown." For each call each exception alone, and each two of which both apply.
 */
final class RefusalsTest {
    private static final Twins.Calls BUSY = x -> Houses.busy(x);
    private static final Twins.Calls FULL = x -> Houses.full(x);
    private static final Twins.Calls SIX_RULES = x -> sixRules(x);
    private static final Twins.Calls EIGHTY_REPORTS = x -> eightyReports(x);
    private static final Twins.Calls FOUR_MODERATORS = x -> fourModerators(x);
    private static final Twins.Calls AT_THE_LIMIT = x -> atTheLimit(x);
    private static final Twins.Calls FORTY_DECISIONS = x -> fortyDecisions(x);
    private static final Twins.Calls LATE = x -> late(x);
    private static final Twins.Calls FEW_PERSONS = x -> fewPersons(x);
    private static final Twins.Calls HEARD_BY_JURY = x -> heardByJury(x);
    private static final Twins.Calls TWENTY_ORDERS = x -> twentyOrders(x);
    private static final Twins.Calls BANNED_WITH_ANOTHER_POST = x -> bannedWithAnotherPost(x);
    private static final Twins.Calls SIX_REGIMES = x -> sixRegimes(x);
    private static final Twins.Calls SPREAD_WITH_STRIKES = x -> spreadWithStrikes(x);
    private static final Twins.Calls FOUR_BUYERS = x -> fourBuyers(x);

    private final Check c;

    private RefusalsTest(Check c) {
        this.c = c;
    }

    static void run(Check c) {
        RefusalsTest test = new RefusalsTest(c);
        test.accounts();
        test.posts();
        test.copies();
        test.rules();
        test.reports();
        test.reportsBeyondEighty();
        test.moderators();
        test.decisions();
        test.decisionsBeyondForty();
        test.ends();
        test.appeals();
        test.appealsTooLate();
        test.hearings();
        test.juries();
        test.votes();
        test.orders();
        test.views();
        test.replies();
        test.edits();
        test.classifiers();
        test.likeness();
        test.buyersAndFeed();
        test.figures();
    }

    private void noIndex(String what, Twins.Calls call) {
        Twins.noIndex(c, what, BUSY, call);
    }

    private void noArgument(String what, Twins.Calls call) {
        Twins.noArgument(c, what, BUSY, call);
    }

    private void notAllowed(String what, Twins.Calls call) {
        Twins.notAllowed(c, what, BUSY, call);
    }

    private void noElement(String what, Twins.Calls call) {
        Twins.noElement(c, what, BUSY, call);
    }

    private void accounts() {
        Twins.noState(c, "addAccount beyond 12", x -> addAccounts(x, 12), x -> x.addAccount());
        noIndex("join of no such account", x -> x.join(8, 0));
        noIndex("join with no such account", x -> x.join(0, 8));
        noIndex("join of two that are none", x -> x.join(8, -1));
        noIndex("weight of no such account", x -> x.weight(8));
    }

    private static void addAccounts(ModHouse x, int accounts) {
        for (int i = 0; i < accounts; i++) {
            x.addAccount();
        }
    }

    private void posts() {
        noIndex("post by no such account", x -> x.post(8, 0));
        noArgument("post of no such marks", x -> x.post(1, 256));
        notAllowed("post by one who is banned", x -> x.post(0, 0));
        noIndex("post by no such account of no such marks", x -> x.post(8, 256));
        noArgument("post of no such marks by one who is banned", x -> x.post(0, 256));
        Twins.noState(c, "post beyond 50", FULL, x -> x.post(1, 0));
        Twins.noIndex(c, "post by no such account beyond 50", FULL, x -> x.post(8, 0));
        Twins.noArgument(c, "post of no such marks beyond 50", FULL, x -> x.post(1, 256));
        Twins.notAllowed(c, "post by one who is banned beyond 50", FULL, x -> x.post(0, 0));
        noIndex("stateOf of no such post", x -> x.stateOf(9));
    }

    private void copies() {
        noIndex("copy by no such account", x -> x.copy(8, 1));
        noIndex("copy of no such post", x -> x.copy(1, 9));
        notAllowed("copy by one who is banned", x -> x.copy(0, 1));
        notAllowed("copy of one removed", x -> x.copy(1, 0));
        notAllowed("copy of one removed by one who is banned", x -> x.copy(0, 0));
        noIndex("copy of no such post by one who is banned", x -> x.copy(0, 9));
        noIndex("copy of one removed by no such account", x -> x.copy(8, 0));
        Twins.noState(c, "copy beyond 50", FULL, x -> x.copy(1, 1));
        Twins.noIndex(c, "copy by no such account beyond 50", FULL, x -> x.copy(8, 1));
        Twins.noIndex(c, "copy of no such post beyond 50", FULL, x -> x.copy(1, 50));
        Twins.notAllowed(c, "copy by one who is banned beyond 50", FULL, x -> x.copy(0, 1));
        Twins.notAllowed(c, "copy of one removed beyond 50", FULL, x -> x.copy(1, 0));
    }

    private static void sixRules(ModHouse x) {
        Houses.busy(x);
        for (int i = 3; i < 6; i++) {
            x.addRule(1, 0, 'l', 0);
        }
    }

    private void rules() {
        noArgument("addRule without needs", x -> x.addRule(0, 0, 'l', 0));
        noArgument("addRule of no such exceptions", x -> x.addRule(1, 256, 'l', 0));
        noArgument("addRule of no such act", x -> x.addRule(1, 0, 'x', 0));
        noArgument("addRule of no such strikes", x -> x.addRule(1, 0, 'l', 4));
        Twins.noState(c, "addRule beyond 6", SIX_RULES, x -> x.addRule(1, 0, 'l', 0));
        Twins.noArgument(c, "addRule without needs beyond 6", SIX_RULES, x -> x.addRule(0, 0, 'l', 0));
        Twins.noArgument(c, "addRule of no such act beyond 6", SIX_RULES, x -> x.addRule(1, 0, 'x', 0));
        Twins.noArgument(c, "addRule of no such strikes beyond 6", SIX_RULES, x -> x.addRule(1, 0, 'l', 4));
        noIndex("change of no such rule", x -> x.change(3, 1, 0, 'l', 0));
        noArgument("change without needs", x -> x.change(0, 0, 0, 'l', 0));
        noArgument("change of no such exceptions", x -> x.change(0, 1, -1, 'l', 0));
        noArgument("change of no such act", x -> x.change(0, 1, 0, 'x', 0));
        noArgument("change of no such strikes", x -> x.change(0, 1, 0, 'l', -1));
        noIndex("change of no such rule without needs", x -> x.change(3, 0, 0, 'l', 0));
        noIndex("change of no such rule to no such act", x -> x.change(3, 1, 0, 'x', 0));
        noIndex("breaks of no such post", x -> x.breaks(9, 0));
        noIndex("breaks of no such rule", x -> x.breaks(0, 3));
        noElement("breaks of a rule that does not bind", x -> x.breaks(0, 2));
        noIndex("breaks of no such post by a rule that binds none", x -> x.breaks(9, 2));
    }

    private void reports() {
        noIndex("report by no such account", x -> x.report(8, 1, 0));
        noIndex("report of no such post", x -> x.report(2, 9, 0));
        noIndex("report by no such rule", x -> x.report(2, 1, 3));
        notAllowed("report by one who is banned", x -> x.report(0, 1, 0));
        notAllowed("report of an own post", x -> x.report(1, 1, 0));
        notAllowed("report again", x -> x.report(3, 1, 1));
        notAllowed("report again behind a decision", x -> x.report(5, 3, 0));
        notAllowed("report of one removed", x -> x.report(2, 0, 0));
        noIndex("report of no such post by one who is banned", x -> x.report(0, 9, 0));
        noIndex("report by no such rule by one who is banned", x -> x.report(0, 1, 3));
        noIndex("report of an own post by no such rule", x -> x.report(1, 1, -1));
        noIndex("report of one removed by no such account", x -> x.report(8, 0, 0));
        noIndex("report of one removed by no such rule", x -> x.report(2, 0, 3));
    }

    private static void eightyReports(ModHouse x) {
        Houses.busy(x);
        int reports = 9;
        for (int rule = 0; rule < 3; rule++) {
            for (int post = 3; post < 9; post++) {
                for (int account = 1; account < 8 && reports < 80; account++) {
                    boolean isMade = account == 4 || account == 5 || account == 6 && post == 7 && rule == 1;
                    if (!isMade) {
                        x.report(account, post, rule);
                        reports++;
                    }
                }
            }
        }
    }

    private void reportsBeyondEighty() {
        Twins.noState(c, "report beyond 80", EIGHTY_REPORTS, x -> x.report(2, 1, 1));
        Twins.noIndex(c, "report by no such account beyond 80", EIGHTY_REPORTS, x -> x.report(8, 1, 1));
        Twins.noIndex(c, "report of no such post beyond 80", EIGHTY_REPORTS, x -> x.report(2, 9, 1));
        Twins.noIndex(c, "report by no such rule beyond 80", EIGHTY_REPORTS, x -> x.report(2, 1, 3));
        Twins.notAllowed(c, "report by one who is banned beyond 80", EIGHTY_REPORTS, x -> x.report(0, 1, 1));
        Twins.notAllowed(c, "report of an own post beyond 80", EIGHTY_REPORTS, x -> x.report(1, 1, 1));
        Twins.notAllowed(c, "report again beyond 80", EIGHTY_REPORTS, x -> x.report(3, 1, 1));
        Twins.notAllowed(c, "report of one removed beyond 80", EIGHTY_REPORTS, x -> x.report(2, 0, 1));
        noIndex("pressure on no such post", x -> x.pressure(9));
        noIndex("queueAt behind the last one", x -> x.queueAt(2));
    }

    private static void fourModerators(ModHouse x) {
        Houses.busy(x);
        x.addModerator(0, 1);
    }

    private void moderators() {
        noArgument("addModerator of no such marks", x -> x.addModerator(256, 1));
        noArgument("addModerator of no such limit", x -> x.addModerator(0, 0));
        Twins.noState(c, "addModerator beyond 4", FOUR_MODERATORS, x -> x.addModerator(0, 1));
        Twins.noArgument(c, "addModerator of no such marks beyond 4", FOUR_MODERATORS,
                x -> x.addModerator(-1, 1));
        Twins.noArgument(c, "addModerator of no such limit beyond 4", FOUR_MODERATORS,
                x -> x.addModerator(0, 10));
        noIndex("next of no such moderator", x -> x.next(3));
        noElement("next of one who may see none", x -> x.next(2));
        Twins.noIndex(c, "next of no such moderator as the queue is empty", x -> addAccounts(x, 1), x -> x.next(0));
    }

    private static void atTheLimit(ModHouse x) {
        Houses.busy(x);
        x.addModerator(255, 1);
        x.decide(3, 1, -1);
        x.report(2, 1, 1);
    }

    private void decisions() {
        noIndex("decide by no such moderator", x -> x.decide(3, 1, 1));
        noIndex("decide on no such post", x -> x.decide(0, 9, 1));
        noIndex("decide by no such rule", x -> x.decide(0, 1, 3));
        noIndex("decide by no such rule, -2", x -> x.decide(0, 1, -2));
        noArgument("decide by a rule that does not bind", x -> x.decide(0, 1, 2));
        notAllowed("decide on what may not be seen", x -> x.decide(2, 1, 1));
        notAllowed("decide on what is not in the queue", x -> x.decide(0, 8, 1));
        notAllowed("decide on what is not in the queue, by none", x -> x.decide(0, 8, -1));
        notAllowed("decide by precedent", x -> x.decide(0, 7, 1));
        Twins.notAllowed(c, "decide at the limit", AT_THE_LIMIT, x -> x.decide(3, 1, 1));
        noIndex("decide by no such moderator by a rule that does not bind", x -> x.decide(3, 1, 2));
        noIndex("decide by no such moderator on what is not in the queue", x -> x.decide(3, 8, 1));
        noIndex("decide by no such rule on what is not in the queue", x -> x.decide(0, 8, 3));
        noIndex("decide by no such rule on what may not be seen", x -> x.decide(2, 1, 3));
        noArgument("decide by a rule that does not bind on what may not be seen", x -> x.decide(2, 1, 2));
        noArgument("decide by a rule that does not bind on what is not in the queue", x -> x.decide(0, 8, 2));
        Twins.noArgument(c, "decide by a rule that does not bind at the limit", AT_THE_LIMIT,
                x -> x.decide(3, 1, 2));
        Twins.noIndex(c, "decide by no such rule at the limit", AT_THE_LIMIT, x -> x.decide(3, 1, 3));
        noIndex("stands of no such decision", x -> x.stands(7));
        noIndex("reach of no such decision", x -> x.reach(7));
    }

    private static void fortyDecisions(ModHouse x) {
        Houses.busy(x);
        x.setScore(1, 0, 1);
        x.setThreshold(1, 1);
        for (int i = 7; i < 40; i++) {
            int post = x.post(4, 3 + (i % 9 == 0 ? 0 : 8));
            x.decide(i % 2, post, -1);
            if (i % 9 == 0) {
                x.pass(1);
            }
        }
    }

    private void decisionsBeyondForty() {
        Twins.noState(c, "decide beyond 40", FORTY_DECISIONS, x -> x.decide(0, 1, 1));
        Twins.noState(c, "decide by none beyond 40", FORTY_DECISIONS, x -> x.decide(0, 1, -1));
        Twins.noIndex(c, "decide by no such moderator beyond 40", FORTY_DECISIONS, x -> x.decide(3, 1, 1));
        Twins.noIndex(c, "decide on no such post beyond 40", FORTY_DECISIONS, x -> x.decide(0, 50, 1));
        Twins.noIndex(c, "decide by no such rule beyond 40", FORTY_DECISIONS, x -> x.decide(0, 1, 3));
        Twins.noArgument(c, "decide by a rule that does not bind beyond 40", FORTY_DECISIONS,
                x -> x.decide(0, 1, 2));
        Twins.notAllowed(c, "decide on what may not be seen beyond 40", FORTY_DECISIONS,
                x -> x.decide(2, 1, 1));
        Twins.notAllowed(c, "decide on what is not in the queue beyond 40", FORTY_DECISIONS,
                x -> x.decide(0, 8, 1));
        Twins.notAllowed(c, "decide by precedent beyond 40", FORTY_DECISIONS, x -> x.decide(0, 7, 1));
    }

    private void ends() {
        noIndex("takeBack of no such decision", x -> x.takeBack(7));
        notAllowed("takeBack of one by none", x -> x.takeBack(1));
        notAllowed("takeBack of one taken back", x -> x.takeBack(2));
        notAllowed("takeBack of one overturned", x -> x.takeBack(5));
        noIndex("strikes of no such account", x -> x.strikes(8));
        noIndex("isBanned of no such account", x -> x.isBanned(8));
    }

    private void appeals() {
        noIndex("appeal against no such decision", x -> x.appeal(7, 4));
        noIndex("appeal by no such account", x -> x.appeal(6, 8));
        notAllowed("appeal against one by none", x -> x.appeal(1, 4));
        notAllowed("appeal against one taken back", x -> x.appeal(2, 4));
        notAllowed("appeal against one overturned", x -> x.appeal(5, 4));
        notAllowed("appeal by one on none of whose posts it acts", x -> x.appeal(6, 1));
        notAllowed("appeal again", x -> x.appeal(3, 4));
        notAllowed("appeal again as it is before a jury", x -> x.appeal(4, 4));
        noIndex("appeal by no such account against one by none", x -> x.appeal(1, 8));
        noIndex("appeal by no such account against one appealed", x -> x.appeal(3, -1));
    }

    private static void late(ModHouse x) {
        Houses.busy(x);
        x.pass(13);
    }

    private void appealsTooLate() {
        Twins.noState(c, "appeal too late", LATE, x -> x.appeal(6, 4));
        Twins.noIndex(c, "appeal by no such account too late", LATE, x -> x.appeal(6, 8));
        Twins.notAllowed(c, "appeal against one taken back too late", LATE, x -> x.appeal(2, 4));
        Twins.notAllowed(c, "appeal against one by none too late", LATE, x -> x.appeal(1, 4));
        Twins.notAllowed(c, "appeal by another one too late", LATE, x -> x.appeal(6, 1));
        Twins.notAllowed(c, "appeal again too late", LATE, x -> x.appeal(3, 4));
    }

    private void hearings() {
        noIndex("hear of no such decision", x -> x.hear(7, 1, true));
        noIndex("hear by no such moderator", x -> x.hear(3, 3, true));
        notAllowed("hear without an appeal", x -> x.hear(6, 1, true));
        notAllowed("hear what was heard", x -> x.hear(5, 1, true));
        notAllowed("hear of one by none", x -> x.hear(1, 1, false));
        notAllowed("hear what is before a jury", x -> x.hear(4, 1, true));
        notAllowed("hear by the moderator who decided", x -> x.hear(3, 0, false));
        noIndex("hear by no such moderator without an appeal", x -> x.hear(6, 3, true));
        noIndex("hear by no such moderator before a jury", x -> x.hear(4, -1, true));
    }

    private static void fewPersons(ModHouse x) {
        Houses.busy(x);
        for (int i = 2; i < 8; i++) {
            if (i != 4 && i != 5) {
                x.join(1, i);
            }
        }
    }

    private void juries() {
        noIndex("jury of no such decision", x -> x.jury(7));
        notAllowed("jury without an appeal", x -> x.jury(6));
        notAllowed("jury of what was heard", x -> x.jury(5));
        notAllowed("jury again", x -> x.jury(4));
        Twins.noElement(c, "jury of too few", FEW_PERSONS, x -> x.jury(3));
        Twins.notAllowed(c, "jury of too few without an appeal", FEW_PERSONS, x -> x.jury(6));
        Twins.notAllowed(c, "jury of too few again", FEW_PERSONS, x -> x.jury(4));
        noIndex("jurorAt of no such decision", x -> x.jurorAt(7, 0));
        noArgument("jurorAt of no such index", x -> x.jurorAt(4, 3));
        noElement("jurorAt without a jury", x -> x.jurorAt(3, 0));
        noIndex("jurorAt of no such decision and index", x -> x.jurorAt(7, 3));
        noArgument("jurorAt of no such index without a jury", x -> x.jurorAt(3, -1));
    }

    private void votes() {
        noIndex("vote on no such decision", x -> x.vote(7, 0, true));
        noArgument("vote of no such juror", x -> x.vote(4, 3, true));
        notAllowed("vote without a jury", x -> x.vote(3, 0, true));
        notAllowed("vote without an appeal", x -> x.vote(6, 0, false));
        notAllowed("vote again", x -> x.vote(4, 0, true));
        notAllowed("vote again, otherwise", x -> x.vote(4, 0, false));
        noIndex("vote of no such juror on no such decision", x -> x.vote(7, 3, true));
        noArgument("vote of no such juror without a jury", x -> x.vote(3, -1, true));
        Twins.notAllowed(c, "vote when it was heard", HEARD_BY_JURY, x -> x.vote(4, 1, false));
        Twins.notAllowed(c, "jury when it was heard", HEARD_BY_JURY, x -> x.jury(4));
        Twins.noArgument(c, "vote of no such juror when it was heard", HEARD_BY_JURY,
                x -> x.vote(4, 3, false));
    }

    private static void heardByJury(ModHouse x) {
        Houses.busy(x);
        x.vote(4, 2, true);
    }

    private static void twentyOrders(ModHouse x) {
        Houses.busy(x);
        for (int i = 2; i < 20; i++) {
            x.order(2, 1, i);
        }
    }

    private void orders() {
        noArgument("order of no such land", x -> x.order(3, 1, 0));
        noArgument("order of no such days", x -> x.order(0, 1, 31));
        noIndex("order of no such post", x -> x.order(0, 9, 0));
        noArgument("order of no such land and post", x -> x.order(3, 9, 0));
        noArgument("order of no such days and post", x -> x.order(0, 9, 31));
        Twins.noState(c, "order beyond 20", TWENTY_ORDERS, x -> x.order(0, 1, 0));
        Twins.noArgument(c, "order of no such land beyond 20", TWENTY_ORDERS, x -> x.order(-1, 1, 0));
        Twins.noArgument(c, "order of no such days beyond 20", TWENTY_ORDERS, x -> x.order(0, 1, -1));
        Twins.noIndex(c, "order of no such post beyond 20", TWENTY_ORDERS, x -> x.order(0, 9, 0));
        noIndex("obey of no such order", x -> x.obey(2));
        notAllowed("obey again", x -> x.obey(0));
    }

    private void views() {
        noIndex("view of no such post", x -> x.view(9, 0, 1));
        noArgument("view in no such land", x -> x.view(1, 3, 1));
        noArgument("view by none", x -> x.view(1, 0, 0));
        noIndex("view of no such post in no such land", x -> x.view(9, 3, 1));
        noIndex("view of no such post by none", x -> x.view(9, 0, 0));
        noIndex("lost of no such post", x -> x.lost(9));
        noArgument("pass of no days", x -> x.pass(0));
        noArgument("pass of too many days", x -> x.pass(61));
    }

    private void replies() {
        noIndex("reply by no such account", x -> x.reply(8, 1, 0));
        noIndex("reply to no such post", x -> x.reply(1, 9, 0));
        noArgument("reply of no such marks", x -> x.reply(1, 1, 256));
        notAllowed("reply by one who is banned", x -> x.reply(0, 1, 0));
        notAllowed("reply to one removed", x -> x.reply(1, 0, 0));
        notAllowed("reply to one hidden", x -> x.reply(1, 2, 0));
        noIndex("reply by no such account of no such marks", x -> x.reply(8, 1, 256));
        noIndex("reply to no such post of no such marks", x -> x.reply(1, 9, 256));
        noIndex("reply to no such post by one who is banned", x -> x.reply(0, 9, 0));
        noIndex("reply to one removed by no such account", x -> x.reply(8, 0, 0));
        noArgument("reply of no such marks by one who is banned", x -> x.reply(0, 1, 256));
        noArgument("reply of no such marks to one removed", x -> x.reply(1, 0, -1));
        noArgument("reply of no such marks to one hidden", x -> x.reply(1, 2, 256));
        Twins.noState(c, "reply beyond 50", FULL, x -> x.reply(1, 1, 0));
        Twins.noIndex(c, "reply by no such account beyond 50", FULL, x -> x.reply(8, 1, 0));
        Twins.noIndex(c, "reply to no such post beyond 50", FULL, x -> x.reply(1, 50, 0));
        Twins.noArgument(c, "reply of no such marks beyond 50", FULL, x -> x.reply(1, 1, 256));
        Twins.notAllowed(c, "reply by one who is banned beyond 50", FULL, x -> x.reply(0, 1, 0));
        Twins.notAllowed(c, "reply to one removed beyond 50", FULL, x -> x.reply(1, 0, 0));
        Twins.notAllowed(c, "reply to one hidden beyond 50", FULL, x -> x.reply(1, 2, 0));
    }

    private static void bannedWithAnotherPost(ModHouse x) {
        Houses.busy(x);
        x.join(0, 2);
    }

    private void edits() {
        noIndex("edit of no such post", x -> x.edit(9, 0));
        noArgument("edit by no such marks", x -> x.edit(3, 256));
        Twins.notAllowed(c, "edit by one who is banned", BANNED_WITH_ANOTHER_POST, x -> x.edit(2, 0));
        notAllowed("edit of one with a report that waits", x -> x.edit(1, 0));
        notAllowed("edit of one with a report that waits, again decided", x -> x.edit(7, 0));
        notAllowed("edit of one on which a decision acts", x -> x.edit(8, 0));
        noIndex("edit of no such post by no such marks", x -> x.edit(9, 256));
        Twins.noArgument(c, "edit by no such marks by one who is banned", BANNED_WITH_ANOTHER_POST,
                x -> x.edit(2, 256));
        noArgument("edit by no such marks of one with a report that waits", x -> x.edit(1, -1));
        noArgument("edit by no such marks of one on which a decision acts", x -> x.edit(8, 256));
        noIndex("isHidden of no such post", x -> x.isHidden(9));
    }

    private void classifiers() {
        noIndex("setScore of no such rule", x -> x.setScore(3, 0, 0));
        noArgument("setScore of no such mark", x -> x.setScore(0, 8, 0));
        noArgument("setScore of no such score", x -> x.setScore(0, 0, 10));
        noArgument("setScore of no such mark without a classifier", x -> x.setScore(1, 8, 0));
        noArgument("setScore of no such score without a classifier", x -> x.setScore(1, 0, -10));
        noIndex("setScore of no such rule and mark", x -> x.setScore(3, 8, 0));
        noIndex("setScore of no such rule and score", x -> x.setScore(3, 0, 10));
        noIndex("setThreshold of no such rule", x -> x.setThreshold(3, 0));
        noArgument("setThreshold out of range", x -> x.setThreshold(0, 73));
        noElement("setThreshold without a classifier", x -> x.setThreshold(1, 0));
        noIndex("setThreshold of no such rule out of range", x -> x.setThreshold(3, 73));
        noArgument("setThreshold out of range without a classifier", x -> x.setThreshold(1, -73));
        noIndex("score of no such rule", x -> x.score(3, 0));
        noIndex("score of no such post", x -> x.score(0, 9));
        noElement("score without a classifier", x -> x.score(1, 0));
        noIndex("score of no such post without a classifier", x -> x.score(1, 9));
        noIndex("machineWeight of no such rule", x -> x.machineWeight(3));
        noElement("machineWeight without a classifier", x -> x.machineWeight(1));
    }

    private static void sixRegimes(ModHouse x) {
        Houses.busy(x);
        for (int i = 1; i < 6; i++) {
            x.regime(0, 'l', 0, i);
        }
    }

    private static void spreadWithStrikes(ModHouse x) {
        addAccounts(x, 3);
        x.addModerator(255, 9);
        x.addRule(1, 0, 'n', 1);
        x.post(0, 1);
        x.post(1, 1);
        x.report(2, 0, 0);
        x.decide(0, 0, 0);
        x.pass(1);
        x.spread(0);
        x.pass(1);
    }

    private void likeness() {
        noArgument("setLikeness out of range", x -> x.setLikeness(4));
        noIndex("alike to no such post", x -> x.alike(9));
        noIndex("spread of no such decision", x -> x.spread(7));
        notAllowed("spread of one by none", x -> x.spread(1));
        notAllowed("spread of one taken back", x -> x.spread(2));
        notAllowed("spread of one overturned", x -> x.spread(5));
        notAllowed("spread again", x -> x.spread(6));
        Twins.notAllowed(c, "spread again, with strikes", SPREAD_WITH_STRIKES, x -> x.spread(0));
        noIndex("regime of no such rule", x -> x.regime(3, 'r', 0, 0));
        noArgument("regime of no such act", x -> x.regime(0, 'x', 0, 0));
        noArgument("regime from below 0", x -> x.regime(0, 'r', -1, 0));
        noArgument("regime till ahead of its first day", x -> x.regime(0, 'r', 1, 0));
        noIndex("regime of no such rule and act", x -> x.regime(3, 'x', 0, 0));
        noIndex("regime of no such rule and days", x -> x.regime(3, 'r', 1, 0));
        Twins.noState(c, "regime beyond 6", SIX_REGIMES, x -> x.regime(1, 'r', 0, 0));
        Twins.noIndex(c, "regime of no such rule beyond 6", SIX_REGIMES, x -> x.regime(3, 'r', 0, 0));
        Twins.noArgument(c, "regime of no such act beyond 6", SIX_REGIMES, x -> x.regime(1, 'x', 0, 0));
        Twins.noArgument(c, "regime of no such days beyond 6", SIX_REGIMES, x -> x.regime(1, 'r', 1, 0));
    }

    private static void fourBuyers(ModHouse x) {
        Houses.busy(x);
        for (int i = 1; i < 4; i++) {
            x.addBuyer(i);
        }
    }

    private void buyersAndFeed() {
        noArgument("addBuyer of no such marks", x -> x.addBuyer(256));
        Twins.noState(c, "addBuyer beyond 4", FOUR_BUYERS, x -> x.addBuyer(0));
        Twins.noArgument(c, "addBuyer of no such marks beyond 4", FOUR_BUYERS, x -> x.addBuyer(-1));
        noIndex("beside of no such post", x -> x.beside(9));
        noIndex("seen of no such post", x -> x.seen(9));
        noIndex("owed of no such post", x -> x.owed(9));
        noIndex("heat of no such post", x -> x.heat(9));
        noArgument("feedSize of no such land", x -> x.feedSize(3));
        noArgument("feedAt of no such land", x -> x.feedAt(3, 0));
        noIndex("feedAt of no such place", x -> x.feedAt(0, 6));
        noArgument("feedAt of no such land and place", x -> x.feedAt(3, 7));
    }

    private void figures() {
        noIndex("numberOf of no such rule", x -> x.numberOf(3, 'd'));
        noArgument("numberOf of no such number", x -> x.numberOf(0, 'x'));
        noIndex("numberOf of no such rule and number", x -> x.numberOf(3, 'x'));
        Twins.refused(c, "standShare of none", ArithmeticException.class, x -> addAccounts(x, 3),
                x -> x.standShare());
        Twins.refused(c, "meanWeight of none", ArithmeticException.class, x -> x.addRule(1, 0, 'l', 0),
                x -> x.meanWeight());
    }
}

/** Objects to start tests from. */
final class Houses {
    private Houses() {
    }

    static ModHouse withAccounts(int accounts) {
        ModHouse x = new ModHouse();
        for (int i = 0; i < accounts; i++) {
            x.addAccount();
        }
        return x;
    }

    /** Accounts, the moderators 0 and 1 who see all, and the rule 0: it needs mark 1, excepts none. */
    static ModHouse ruled(int accounts, char act, int strikes) {
        ModHouse x = withAccounts(accounts);
        x.addModerator(255, 9);
        x.addModerator(255, 9);
        x.addRule(1, 0, act, strikes);
        return x;
    }

    /** Reports a post by a rule, by rule 0 if it is none, and lets moderator 0 decide so. */
    static int decided(ModHouse x, int reporter, int post, int rule) {
        x.report(reporter, post, Math.max(0, rule));
        return x.decide(0, post, rule);
    }

    /** Days pass, also more than one call lets pass. */
    static void pass(ModHouse x, int days) {
        int left = days;
        while (left > 0) {
            int step = Math.min(left, 60);
            x.pass(step);
            left -= step;
        }
    }

    /**
     * A house on day 1 in which each call has something that is refused. Accounts: 0 banned, 1 and 2 authors, 3
     * to 7 others, 4 the author of what is decided, 5 who reports it. Rules: 0 removes with 3 strikes and has a
     * classifier, 1 labels, 2 binds nothing of day 0. Moderators: 0 who decides, 1, and 2 who sees mark 1 alone.
     * Posts: 0 removed, 1 with a report that waits, 2 hidden, 3 decided by none, 4 to 8 those of decisions 2 to 6.
     * Decisions: 0 by which 0 is removed, 1 by none, 2 taken back, 3 appealed, 4 before a jury with one vote, 5
     * overturned, its post reported again, 6 spread. Orders: 0 obeyed, 1 not.
     */
    static void busy(ModHouse x) {
        for (int i = 0; i < 8; i++) {
            x.addAccount();
        }
        x.addModerator(255, 9);
        x.addModerator(255, 9);
        x.addModerator(1, 9);
        x.addRule(1, 0, 'r', 3);
        x.addRule(2, 0, 'l', 0);
        x.setScore(0, 7, 1);
        x.post(0, 1);
        x.post(1, 2);
        x.reply(2, 0, 0);
        x.report(3, 1, 1);
        decided(x, 5, 0, 0);
        for (int i = 0; i < 6; i++) {
            x.post(4, i == 0 ? 0 : 2 + (2 << i));
        }
        decided(x, 5, 3, -1);
        decided(x, 5, 4, 1);
        decided(x, 5, 5, 1);
        decided(x, 5, 6, 1);
        decided(x, 5, 7, 1);
        decided(x, 5, 8, 1);
        x.takeBack(2);
        x.appeal(3, 4);
        x.appeal(4, 4);
        x.jury(4);
        x.vote(4, 0, true);
        x.appeal(5, 4);
        x.hear(5, 1, true);
        x.report(6, 7, 1);
        x.spread(6);
        x.order(0, 3, 9);
        x.order(1, 3, 0);
        x.obey(0);
        x.view(0, 0, 5);
        x.view(4, 1, 3);
        x.addBuyer(1);
        x.regime(1, 'n', 3, 4);
        x.pass(1);
        x.addRule(4, 0, 'n', 0);
    }

    /** A busy house that is filled with posts. */
    static void full(ModHouse x) {
        busy(x);
        for (int i = 9; i < 50; i++) {
            x.post(7, 0);
        }
    }
}

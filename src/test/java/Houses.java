/** Objects to start tests from. */
final class Houses {
    private Houses() {
    }

    static ModHouse withAccounts(int accounts) {
        ModHouse x = new ModHouse();
        for (int i = 0; i < accounts; i++) {
            x.addAccount();
        }
        return x;
    }

    /** Accounts, the moderators 0 and 1 who see all, and the rule 0: it needs mark 1, excepts none. */
    static ModHouse ruled(int accounts, char act, int strikes) {
        ModHouse x = withAccounts(accounts);
        x.addModerator(255, 9);
        x.addModerator(255, 9);
        x.addRule(1, 0, act, strikes);
        return x;
    }

    /** Reports a post by a rule and lets moderator 0 decide so. */
    static int decided(ModHouse x, int reporter, int post, int rule) {
        x.report(reporter, post, rule);
        return x.decide(0, post, rule);
    }

    /** Days pass, also more than one call lets pass. */
    static void pass(ModHouse x, int days) {
        int left = days;
        while (left > 0) {
            int step = Math.min(left, 60);
            x.pass(step);
            left -= step;
        }
    }
}

/** The example of README.md answers what is told there. */
final class UseTest {
    private UseTest() {
    }

    static void run(Check c) {
        ModHouse house = new ModHouse();
        int author = house.addAccount();
        int reporter = house.addAccount();
        int rule = house.addRule(1, 0, 'n', 1);
        int moderator = house.addModerator(255, 9);
        int post = house.post(author, 1);
        house.report(reporter, post, rule);
        int decision = house.decide(moderator, post, rule);
        c.is("stateOf(post)", house.stateOf(post), 'n');
        c.is("view(post, 0, 9)", house.view(post, 0, 9), 4);
        house.takeBack(decision);
        c.is("owed(post)", house.owed(post), 5);
        int reply = house.reply(reporter, post, 0);
        c.is("change on the same day", house.change(rule, 1, 0, 'r', 1), 1);
        house.setScore(rule, 0, 9);
        house.setThreshold(rule, 9);
        c.is("pass(1)", house.pass(1), 1);
        house.edit(post, 1);
        c.is("next(moderator)", house.next(moderator), post);
        int removal = house.decide(moderator, post, rule);
        c.is("isHidden(reply)", house.isHidden(reply), true);
        c.is("appeal(removal, author)", house.appeal(removal, author), 13);
        int other = house.addModerator(0, 1);
        c.is("hear(removal, other, true)", house.hear(removal, other, true), false);
        c.is("numberOf(rule, 'o')", house.numberOf(rule, 'o'), 1);
    }
}

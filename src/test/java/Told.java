import java.util.ArrayList;
import java.util.List;
import java.util.NoSuchElementException;
import java.util.function.Function;

/**
 * All that can be told of a house: by the calls that only look, and by calls that use it on, whose answers also tell
 * what no look does (the lots, the limits, what is counted). No house gets more than the 512 calls for which it is
 * promised to answer: it is made anew ahead of that.
 */
final class Told {
    /** Making a house and using it on leaves room for so many. */
    private static final int LOOKS_AT_ONCE = 200;
    private static final int FEW = 9;
    private static final int MANY = 220;

    private record Question(String what, Function<ModHouse, Object> call) {
    }

    private final Twins.Calls making;
    private final List<String> lines = new ArrayList<>();
    private List<Question> asked = new ArrayList<>();
    private final int accounts;
    private final int rules;
    private final int moderators;
    private final int posts;
    private final int decisions;

    private Told(Twins.Calls making) {
        this.making = making;
        ModHouse x = Twins.made(making);
        accounts = count(i -> x.weight(i));
        rules = count(i -> x.numberOf(i, 'd'));
        posts = count(i -> x.stateOf(i));
        decisions = count(i -> x.stands(i));
        moderators = count(i -> isModerator(x, i));
    }

    /** What a house tells that is made so. */
    static List<String> of(Twins.Calls making) {
        Told told = new Told(making);
        List<Question> looks = told.looks();
        told.look(List.of(), looks);
        told.useAndLook(told.ends(), looks);
        told.useAndLook(told.starts(), looks);
        told.useAndLook(told.goesOn(), looks);
        told.use(told.builds());
        told.use(told.fills());
        told.use(told.ages());
        return told.lines;
    }

    /** How many things are numbered; a call beyond them throws IndexOutOfBoundsException. */
    private static int count(Function<Integer, Object> call) {
        for (int i = 0; i < 100; i++) {
            try {
                call.apply(i);
            } catch (IndexOutOfBoundsException e) {
                return i;
            }
        }
        return 100;
    }

    private static Object isModerator(ModHouse x, int moderator) {
        try {
            return x.next(moderator);
        } catch (NoSuchElementException e) {
            return -1;
        }
    }

    private static String answer(ModHouse x, Question question) {
        try {
            return question.what + ": " + question.call.apply(x);
        } catch (RuntimeException e) {
            return question.what + ": throws " + Check.nameOf(e);
        }
    }

    private void use(List<Question> calls) {
        ModHouse x = Twins.made(making);
        for (Question call : calls) {
            lines.add(answer(x, call));
        }
    }

    private void useAndLook(List<Question> calls, List<Question> looks) {
        use(calls);
        look(calls, looks);
    }

    /** Looks at houses that were used on so. */
    private void look(List<Question> calls, List<Question> looks) {
        ModHouse x = null;
        for (int i = 0; i < looks.size(); i++) {
            if (i % LOOKS_AT_ONCE == 0) {
                x = Twins.made(making);
                for (Question call : calls) {
                    answer(x, call);
                }
            }
            lines.add(answer(x, looks.get(i)));
        }
    }

    private void ask(String what, Function<ModHouse, Object> call) {
        asked.add(new Question(what, call));
    }

    private List<Question> done() {
        List<Question> all = asked;
        asked = new ArrayList<>();
        return all;
    }

    private List<Question> looks() {
        ask("late", x -> x.late());
        ask("standShare", x -> x.standShare());
        ask("meanWeight", x -> x.meanWeight());
        ask("isSound", x -> x.isSound());
        for (int i = 0; i < accounts; i++) {
            int account = i;
            ask("weight " + i, x -> x.weight(account));
            ask("strikes " + i, x -> x.strikes(account));
            ask("isBanned " + i, x -> x.isBanned(account));
        }
        for (int i = 0; i < posts; i++) {
            looksAtPost(i);
        }
        for (int i = 0; i < rules; i++) {
            looksAtRule(i);
        }
        for (int i = 0; i < decisions; i++) {
            int decision = i;
            ask("stands " + i, x -> x.stands(decision));
            ask("reach " + i, x -> x.reach(decision));
            for (int j = 0; j < 3; j++) {
                int index = j;
                ask("jurorAt " + i + " " + j, x -> x.jurorAt(decision, index));
            }
        }
        looksAtRanks();
        return done();
    }

    private void looksAtPost(int post) {
        ask("stateOf " + post, x -> x.stateOf(post));
        ask("isHidden " + post, x -> x.isHidden(post));
        ask("pressure " + post, x -> x.pressure(post));
        ask("alike " + post, x -> x.alike(post));
        ask("beside " + post, x -> x.beside(post));
        ask("lost " + post, x -> x.lost(post));
        ask("seen " + post, x -> x.seen(post));
        ask("owed " + post, x -> x.owed(post));
        ask("heat " + post, x -> x.heat(post));
    }

    private void looksAtRule(int rule) {
        ask("machineWeight " + rule, x -> x.machineWeight(rule));
        String letters = "dsobarwmt";
        for (int i = 0; i < letters.length(); i++) {
            char what = letters.charAt(i);
            ask("numberOf " + rule + " " + what, x -> x.numberOf(rule, what));
        }
        for (int i = 0; i < posts; i++) {
            int post = i;
            ask("breaks " + i + " " + rule, x -> x.breaks(post, rule));
            ask("score " + rule + " " + i, x -> x.score(rule, post));
        }
    }

    private void looksAtRanks() {
        ask("queued", x -> x.queued());
        for (int i = 0; i < moderators; i++) {
            int moderator = i;
            ask("next " + i, x -> x.next(moderator));
        }
        for (int i = 0; i < 3; i++) {
            int land = i;
            ask("feedSize " + i, x -> x.feedSize(land));
        }
        for (int i = 0; i <= posts; i++) {
            int place = i;
            ask("queueAt " + i, x -> x.queueAt(place));
            ask("feedAt " + i, x -> x.feedAt(place % 3, place));
            ask("feedAt " + i + " of the next land", x -> x.feedAt((place + 1) % 3, place));
        }
    }

    /** What was begun ends: appeals, orders, the queue. */
    private List<Question> ends() {
        for (int i = 0; i < decisions && i < FEW; i++) {
            int decision = i;
            ask("jury " + i, x -> x.jury(decision));
            for (int j = 0; j < 3; j++) {
                int index = j;
                ask("vote " + i + " " + j, x -> x.vote(decision, index, index > 0));
            }
            ask("hear " + i, x -> x.hear(decision, 0, true));
            ask("spread " + i, x -> x.spread(decision));
        }
        for (int i = 0; i < 20; i++) {
            int order = i;
            ask("obey " + i, x -> x.obey(order));
        }
        for (int i = 0; i < moderators; i++) {
            int moderator = i;
            for (int j = 0; j < 10; j++) {
                ask("decide by " + i, x -> x.decide(moderator, x.next(moderator), -1));
            }
        }
        return done();
    }

    /** Whatever can be had in a number only is asked for, and what is answered by what was ahead of it. */
    private List<Question> starts() {
        for (int i = 0; i < accounts; i++) {
            int account = i;
            ask("post " + i, x -> x.post(account, 1));
        }
        for (int i = 0; i < rules; i++) {
            int rule = i;
            ask("breaks of it " + i, x -> x.breaks(posts, rule));
        }
        ask("addAccount", x -> x.addAccount());
        ask("addRule", x -> x.addRule(1, 0, 'l', 0));
        ask("addModerator", x -> x.addModerator(255, 9));
        ask("addBuyer", x -> x.addBuyer(0));
        ask("order", x -> x.order(0, 0, 0));
        ask("setLikeness", x -> x.setLikeness(3));
        for (int i = 0; i < rules; i++) {
            int rule = i;
            ask("setThreshold " + i, x -> x.setThreshold(rule, -72));
            for (int j = 0; j < 8; j++) {
                int mark = j;
                ask("setScore " + i + " " + j, x -> x.setScore(rule, mark, 0));
            }
            ask("change " + i, x -> x.change(rule, 1, 0, 'n', 1));
            ask("regime " + i, x -> x.regime(rule, 'n', 0, 99));
        }
        return done();
    }

    private List<Question> goesOn() {
        for (int i = 0; i < posts && i < FEW; i++) {
            int post = i;
            ask("edit " + i, x -> x.edit(post, 1));
            ask("view " + i, x -> x.view(post, post % 3, 7));
            ask("copy " + i, x -> x.copy(accounts - 1, post));
            ask("report " + i, x -> x.report(accounts - 1, post, 0));
        }
        for (int i = 0; i < decisions && i < FEW; i++) {
            int decision = i;
            for (int j = 0; j < accounts; j++) {
                int account = j;
                ask("appeal " + i + " " + j, x -> x.appeal(decision, account));
            }
            ask("takeBack " + i, x -> x.takeBack(decision));
        }
        for (int i = 1; i < accounts; i++) {
            int account = i;
            ask("join " + i, x -> x.join(account, account - 1));
        }
        return done();
    }

    /** What there may be none of yet is made, up to a jury, whose lots tell how many were drawn ahead of it. */
    private List<Question> builds() {
        int author = Math.min(accounts, 11);
        int rule = Math.min(rules, 5);
        int moderator = Math.min(moderators, 3);
        for (int i = 0; i < 5; i++) {
            ask("addAccount", x -> x.addAccount());
        }
        ask("addModerator", x -> x.addModerator(255, 9));
        ask("addRule", x -> x.addRule(1, 0, 'n', 0));
        ask("post", x -> x.post(author, 1));
        ask("report", x -> x.report(Math.min(accounts + 1, 11), posts, rule));
        ask("decide", x -> x.decide(moderator, posts, rule));
        ask("spread", x -> x.spread(decisions));
        ask("appeal", x -> x.appeal(decisions, author));
        for (int i = 0; i <= decisions && i <= FEW; i++) {
            int decision = i;
            ask("spread " + i, x -> x.spread(decision));
            ask("jury " + i, x -> x.jury(decision));
            ask("jurorAt " + i, x -> x.jurorAt(decision, 2));
        }
        for (int i = 0; i < 7; i++) {
            ask("regime", x -> x.regime(0, 'l', 0, 0));
            ask("addBuyer", x -> x.addBuyer(0));
            ask("setLikeness", x -> x.setLikeness(1));
        }
        return done();
    }

    /** Persons report until no report is taken. */
    private List<Question> fills() {
        for (int i = 0; i < posts && asked.size() < MANY; i++) {
            for (int j = 0; j < accounts * rules && asked.size() < MANY; j++) {
                int post = i;
                int account = j / rules;
                int rule = j % rules;
                ask("report " + j + " of " + i, x -> x.report(account, post, rule));
            }
        }
        return done();
    }

    /** Days pass until nothing counts that ages. */
    private List<Question> ages() {
        int[] passes = {1, 1, 1, 1, 1, 1, 1, 1, 5, 1, 14, 1, 1, 59, 1, 1, 1, 60};
        int day = 0;
        for (int days : passes) {
            for (int i = 0; i < accounts; i++) {
                int account = i;
                ask("strikes " + i + " after " + day, x -> x.strikes(account));
            }
            for (int i = 0; i < posts && i < FEW && day < 8; i++) {
                int post = i;
                ask("heat " + i + " after " + day, x -> x.heat(post));
            }
            ask("late after " + day, x -> x.late());
            ask("pass", x -> x.pass(days));
            day += days;
        }
        return done();
    }
}

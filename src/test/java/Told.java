import java.util.ArrayList;
import java.util.List;
import java.util.function.Supplier;

/**
 * All that can be told of a house: first by the calls that only look, then by calls that change it, whose answers
 * also tell what no look does (the lots, the limits, what is counted), then by looks again.
 */
final class Told {
    private final ModHouse x;
    private final List<String> lines = new ArrayList<>();
    private final int accounts;
    private final int rules;
    private final int moderators;
    private final int posts;
    private final int decisions;
    private final int orders;

    private Told(ModHouse x) {
        this.x = x;
        accounts = count(i -> x.weight(i));
        rules = count(i -> x.numberOf(i, 'd'));
        posts = count(i -> x.stateOf(i));
        decisions = count(i -> x.stands(i));
        moderators = count(i -> isModerator(i));
        orders = 20;
    }

    private interface Look {
        Object at(int i);
    }

    /** How many things are numbered; a call beyond them throws IndexOutOfBoundsException. */
    private static int count(Look look) {
        for (int i = 0; i < 100; i++) {
            try {
                look.at(i);
            } catch (IndexOutOfBoundsException e) {
                return i;
            }
        }
        return 100;
    }

    private Object isModerator(int moderator) {
        try {
            return x.next(moderator);
        } catch (java.util.NoSuchElementException e) {
            return -1;
        }
    }

    /** What a house tells as it is used on; it is used up by that. */
    static List<String> of(ModHouse x) {
        Told told = new Told(x);
        told.looks();
        told.ends();
        told.starts();
        told.goesOn();
        told.looks();
        return told.lines;
    }

    /** What a house tells as days pass, behind which nothing counts that ages; it is used up by that. */
    static List<String> ofDays(ModHouse x) {
        Told told = new Told(x);
        for (int i = 0; i < 92; i++) {
            told.ages(i);
        }
        return told.lines;
    }

    /** The first line in which what two houses tell differs; "none" if they are alike. */
    static String difference(List<String> ones, List<String> others) {
        for (int i = 0; i < ones.size() && i < others.size(); i++) {
            if (!ones.get(i).equals(others.get(i))) {
                return ones.get(i) + " instead of " + others.get(i);
            }
        }
        return ones.size() == others.size() ? "none" : "one tells more";
    }

    private void tell(String what, Supplier<Object> call) {
        String answer;
        try {
            answer = String.valueOf(call.get());
        } catch (RuntimeException e) {
            answer = "throws " + Check.nameOf(e);
        }
        lines.add(what + ": " + answer);
    }

    private void looks() {
        tell("queued", () -> x.queued());
        tell("late", () -> x.late());
        tell("standShare", () -> x.standShare());
        tell("meanWeight", () -> x.meanWeight());
        tell("isSound", () -> x.isSound());
        for (int i = 0; i < accounts; i++) {
            int account = i;
            tell("weight " + i, () -> x.weight(account));
            tell("strikes " + i, () -> x.strikes(account));
            tell("isBanned " + i, () -> x.isBanned(account));
        }
        for (int i = 0; i < moderators; i++) {
            int moderator = i;
            tell("next " + i, () -> x.next(moderator));
        }
        for (int i = 0; i < posts; i++) {
            looksAtPost(i);
        }
        for (int i = 0; i < rules; i++) {
            looksAtRule(i);
        }
        for (int i = 0; i < decisions; i++) {
            int decision = i;
            tell("stands " + i, () -> x.stands(decision));
            tell("reach " + i, () -> x.reach(decision));
            for (int j = 0; j < 3; j++) {
                int index = j;
                tell("jurorAt " + i + " " + j, () -> x.jurorAt(decision, index));
            }
        }
        looksAtRanks();
    }

    private void looksAtPost(int post) {
        tell("stateOf " + post, () -> x.stateOf(post));
        tell("isHidden " + post, () -> x.isHidden(post));
        tell("pressure " + post, () -> x.pressure(post));
        tell("alike " + post, () -> x.alike(post));
        tell("beside " + post, () -> x.beside(post));
        tell("lost " + post, () -> x.lost(post));
        tell("seen " + post, () -> x.seen(post));
        tell("owed " + post, () -> x.owed(post));
        tell("heat " + post, () -> x.heat(post));
    }

    private void looksAtRule(int rule) {
        tell("machineWeight " + rule, () -> x.machineWeight(rule));
        String letters = "dsobarwmt";
        for (int i = 0; i < letters.length(); i++) {
            char what = letters.charAt(i);
            tell("numberOf " + rule + " " + what, () -> x.numberOf(rule, what));
        }
        for (int i = 0; i < posts; i++) {
            int post = i;
            tell("breaks " + i + " " + rule, () -> x.breaks(post, rule));
            tell("score " + rule + " " + i, () -> x.score(rule, post));
        }
    }

    private void looksAtRanks() {
        int queued = x.queued();
        for (int i = 0; i < queued; i++) {
            int place = i;
            tell("queueAt " + i, () -> x.queueAt(place));
        }
        for (int i = 0; i < 3; i++) {
            int land = i;
            tell("feedSize " + i, () -> x.feedSize(land));
            int size = x.feedSize(land);
            for (int j = 0; j < size; j++) {
                int place = j;
                tell("feedAt " + i + " " + j, () -> x.feedAt(land, place));
            }
        }
    }

    /** What was begun ends: appeals, orders, the queue, decisions. */
    private void ends() {
        for (int i = 0; i < decisions; i++) {
            int decision = i;
            tell("jury " + i, () -> x.jury(decision));
            for (int j = 0; j < 3; j++) {
                int index = j;
                tell("vote " + i + " " + j, () -> x.vote(decision, index, index > 0));
            }
            tell("hear " + i, () -> x.hear(decision, 0, true));
            tell("spread " + i, () -> x.spread(decision));
        }
        for (int i = 0; i < orders; i++) {
            int order = i;
            tell("obey " + i, () -> x.obey(order));
        }
        for (int i = 0; i < moderators; i++) {
            int moderator = i;
            for (int j = 0; j < 10; j++) {
                tell("decide by " + i, () -> x.decide(moderator, x.next(moderator), -1));
            }
        }
    }

    /** What can be had in a number only is asked for, and what is told with an answer of what was ahead of it. */
    private void starts() {
        for (int i = 0; i < accounts; i++) {
            int account = i;
            tell("post " + i, () -> x.post(account, 1));
            for (int j = 0; j < rules; j++) {
                int rule = j;
                tell("breaks of it " + j, () -> x.breaks(posts, rule));
            }
        }
        tell("addAccount", () -> x.addAccount());
        tell("addRule", () -> x.addRule(1, 0, 'l', 0));
        tell("addModerator", () -> x.addModerator(255, 9));
        tell("addBuyer", () -> x.addBuyer(0));
        tell("order", () -> x.order(0, 0, 0));
        tell("setLikeness", () -> x.setLikeness(3));
        for (int i = 0; i < rules; i++) {
            int rule = i;
            tell("setThreshold " + i, () -> x.setThreshold(rule, -72));
            for (int j = 0; j < 8; j++) {
                int mark = j;
                tell("setScore " + i + " " + j, () -> x.setScore(rule, mark, 0));
            }
            tell("change " + i, () -> x.change(rule, 1, 0, 'n', 1));
            tell("regime " + i, () -> x.regime(rule, 'n', 0, 99));
        }
    }

    private void goesOn() {
        for (int i = 0; i < posts; i++) {
            int post = i;
            tell("edit " + i, () -> x.edit(post, 1));
            tell("view " + i, () -> x.view(post, post % 3, 7));
            tell("copy " + i, () -> x.copy(accounts - 1, post));
            tell("report " + i, () -> x.report(accounts - 1, post, 0));
        }
        for (int i = 0; i < decisions; i++) {
            int decision = i;
            for (int j = 0; j < accounts; j++) {
                int account = j;
                tell("appeal " + i + " " + j, () -> x.appeal(decision, account));
            }
            tell("takeBack " + i, () -> x.takeBack(decision));
        }
        tell("pass", () -> x.pass(1));
        for (int i = 1; i < accounts; i++) {
            int account = i;
            tell("join " + i, () -> x.join(account, account - 1));
        }
    }

    private void ages(int days) {
        for (int i = 0; i < accounts; i++) {
            int account = i;
            tell("strikes " + i + " after " + days, () -> x.strikes(account));
        }
        for (int i = 0; i < posts && days < 9; i++) {
            int post = i;
            tell("heat " + i + " after " + days, () -> x.heat(post));
        }
        tell("late after " + days, () -> x.late());
        tell("pass", () -> x.pass(1));
    }
}

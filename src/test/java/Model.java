import java.util.ArrayList;
import java.util.Collections;
import java.util.Comparator;
import java.util.HashSet;
import java.util.List;
import java.util.NoSuchElementException;
import java.util.Set;
import java.util.TreeMap;
import java.util.TreeSet;

/**
 * A second reading of the document, written in another way than ModHouse: families are sets of posts, versions a map
 * by days, reports one list, and what a post saw, lost and is owed follows from one log of views and ends.
 */
public final class Model {
    record Version(int needs, int excepts, int harm, int strikes) {
    }

    record Regime(int rule, int harm, int from, int till) {
    }

    record Watched(int post, int day, int seen, int lost, Set<Integer> blamed, int ended) {
    }

    static final class Post {
        int account;
        int parent;
        int marks;
        int day;
        Set<Integer> family;
    }

    static final class Report {
        int account;
        int post;
        int rule;
        int day;
        int doneBy = -1;
    }

    static final class Decision {
        int moderator;
        int post;
        int rule;
        int day;
        int marks;
        int waited;
        Set<Integer> family;
        Set<Integer> spread = null;
        int spreadDay;
        boolean stands;
        boolean overturned;
        boolean appealed;
        boolean waits;
        List<Integer> jurors = null;
        Boolean[] votes = new Boolean[3];
    }

    static final class Order {
        int land;
        int post;
        int until;
        boolean obeyed;
    }

    private final List<Set<Integer>> persons = new ArrayList<>();
    private final List<Integer> weights = new ArrayList<>();
    private int accounts = 0;
    final List<Post> posts = new ArrayList<>();
    private final List<TreeMap<Integer, Version>> rules = new ArrayList<>();
    private final List<int[]> scores = new ArrayList<>();
    private final int[] thresholds = {72, 72, 72, 72, 72, 72};
    private final int[] machines = {10, 10, 10, 10, 10, 10};
    private final List<Report> reports = new ArrayList<>();
    private final List<int[]> moderators = new ArrayList<>();
    final List<Decision> decisions = new ArrayList<>();
    final List<Order> orders = new ArrayList<>();
    private final List<Regime> regimes = new ArrayList<>();
    private final List<Integer> buyers = new ArrayList<>();
    private final List<Watched> log = new ArrayList<>();
    private int likeness = 0;
    private int day = 0;
    private long z = 1;

    private static void index(boolean isOut) {
        if (isOut) {
            throw new IndexOutOfBoundsException();
        }
    }

    private static void argument(boolean isWrong) {
        if (isWrong) {
            throw new IllegalArgumentException();
        }
    }

    private static void allowed(boolean isForbidden) {
        if (isForbidden) {
            throw new UnsupportedOperationException();
        }
    }

    private static void state(boolean isFull) {
        if (isFull) {
            throw new IllegalStateException();
        }
    }

    private static void element(boolean isMissing) {
        if (isMissing) {
            throw new NoSuchElementException();
        }
    }

    private static boolean out(int number, int size) {
        return number < 0 || number >= size;
    }

    private static boolean noMarks(int marks) {
        return (marks & ~255) != 0;
    }

    private int person(int account) {
        for (int i = 0; i < persons.size(); i++) {
            if (persons.get(i).contains(account)) {
                return i;
            }
        }
        throw new AssertionError();
    }

    private void gain(Report r, int more) {
        if (r.account < 0) {
            machines[r.rule] = Math.min(20, Math.max(1, machines[r.rule] + more));
        } else {
            int p = person(r.account);
            weights.set(p, Math.min(20, Math.max(1, weights.get(p) + more)));
        }
    }

    private Version bind(int rule, int post) {
        var entry = rules.get(rule).floorEntry(posts.get(post).day);
        return entry == null ? null : entry.getValue();
    }

    private boolean broken(int rule, int post) {
        Version v = bind(rule, post);
        int marks = posts.get(post).marks;
        return v != null && (marks | ~v.needs) == -1 && (marks & v.excepts) == 0;
    }

    private int harm(int rule, int post) {
        Version v = bind(rule, post);
        if (v == null) {
            return 0;
        }
        int at = posts.get(post).day;
        return regimes.stream().filter(g -> g.rule == rule && g.from <= at && at <= g.till).mapToInt(g -> g.harm)
                .reduce(v.harm, Math::max);
    }

    private boolean acts(Decision d, int post) {
        return d.stands && bind(d.rule, post) != null
                && (d.family.contains(post) || d.spread != null && d.spread.contains(post));
    }

    private int worst(int post) {
        return decisions.stream().filter(d -> acts(d, post)).mapToInt(d -> harm(d.rule, post)).max().orElse(0);
    }

    private boolean covered(int post) {
        int parent = posts.get(post).parent;
        return parent >= 0 && (worst(parent) == 3 || covered(parent));
    }

    private boolean withheld(int post, int land) {
        return orders.stream().anyMatch(o -> o.obeyed && o.post == post && o.land == land);
    }

    private boolean shown(int post, int land) {
        return worst(post) < 3 && !covered(post) && !withheld(post, land);
    }

    private int struck(int person) {
        int sum = 0;
        for (Decision d : decisions) {
            for (int i = 0; i < posts.size(); i++) {
                if (persons.get(person).contains(posts.get(i).account) && acts(d, i)) {
                    int from = d.family.contains(i) ? Math.max(d.day, posts.get(i).day) : d.spreadDay;
                    if (day <= from + 89) {
                        sum += bind(d.rule, i).strikes;
                    }
                }
            }
        }
        return sum;
    }

    private boolean banned(int person) {
        return struck(person) >= 3;
    }

    private boolean owns(int person, int post) {
        return persons.get(person).contains(posts.get(post).account);
    }

    private boolean reported(int person, int post, int rule) {
        return reports.stream().anyMatch(r -> r.account >= 0 && persons.get(person).contains(r.account)
                && r.post == post && r.rule == rule);
    }

    private boolean waiting(int post) {
        return reports.stream().anyMatch(r -> r.post == post && r.doneBy < 0);
    }

    private int pressing(int post) {
        Set<Integer> who = new HashSet<>();
        Set<Integer> what = new HashSet<>();
        for (Report r : reports) {
            if (r.post == post && r.doneBy < 0) {
                if (r.account >= 0) {
                    who.add(person(r.account));
                } else {
                    what.add(r.rule);
                }
            }
        }
        return who.stream().mapToInt(weights::get).sum() + what.stream().mapToInt(i -> machines[i]).sum();
    }

    private List<Integer> numbers() {
        List<Integer> all = new ArrayList<>();
        for (int i = 0; i < posts.size(); i++) {
            all.add(i);
        }
        return all;
    }

    List<Integer> queue() {
        List<Integer> all = numbers();
        all.removeIf(i -> !waiting(i));
        Comparator<Integer> byHarm = Comparator.comparing(i -> -reports.stream()
                .filter(r -> r.post == i && r.doneBy < 0).mapToInt(r -> harm(r.rule, i)).max().orElse(0));
        all.sort(byHarm.thenComparing(i -> -pressing(i)).thenComparing(i -> i));
        return all;
    }

    private boolean looks(int moderator, int post) {
        int[] m = moderators.get(moderator);
        return waiting(post) && (posts.get(post).marks | m[0]) == m[0]
                && decisions.stream().filter(d -> d.moderator == moderator && d.day == day).count() < m[1];
    }

    private boolean like(int one, int other) {
        return !posts.get(one).family.contains(other)
                && Integer.bitCount(posts.get(one).marks ^ posts.get(other).marks) <= likeness;
    }

    private void machinesReport(int post) {
        for (int i = 0; i < rules.size(); i++) {
            if (scores.get(i) != null && rated(i, post) >= thresholds[i] && bind(i, post) != null) {
                Report r = new Report();
                r.account = -1;
                r.post = post;
                r.rule = i;
                r.day = day;
                reports.add(r);
            }
        }
    }

    private int rated(int rule, int post) {
        int sum = 0;
        for (int i = 0; i < 8; i++) {
            sum += (posts.get(post).marks >> i) % 2 * scores.get(rule)[i];
        }
        return sum;
    }

    private int publish(int account, int marks, int parent, Set<Integer> family) {
        Post p = new Post();
        p.account = account;
        p.marks = marks;
        p.parent = parent;
        p.day = day;
        p.family = family;
        posts.add(p);
        family.add(posts.size() - 1);
        machinesReport(posts.size() - 1);
        return posts.size() - 1;
    }

    private long debt(int post) {
        long debt = 0;
        for (int i = 0; i < log.size(); i++) {
            Watched w = log.get(i);
            if (w.ended >= 0) {
                for (Watched old : log.subList(0, i)) {
                    if (old.post == post && old.blamed.contains(w.ended)) {
                        debt += old.lost;
                    }
                }
            } else if (w.post == post) {
                debt = Math.max(0, debt - w.seen);
            }
        }
        return debt;
    }

    private void finish(int decision) {
        decisions.get(decision).stands = false;
        log.add(new Watched(-1, day, 0, 0, Set.of(), decision));
    }

    private void judge(int decision, boolean isOverturned) {
        Decision d = decisions.get(decision);
        d.waits = false;
        if (isOverturned) {
            finish(decision);
            d.overturned = true;
            Set<Integer> done = new TreeSet<>();
            for (Report r : reports) {
                if (r.doneBy == decision && r.rule == d.rule && done.add(r.account < 0 ? -1 : person(r.account))) {
                    gain(r, -5);
                }
            }
        }
    }

    public int addAccount() {
        state(accounts == 12);
        persons.add(new TreeSet<>(Set.of(accounts)));
        weights.add(10);
        return accounts++;
    }

    public int join(int account, int other) {
        index(out(account, accounts) || out(other, accounts));
        int a = person(account);
        int b = person(other);
        if (a != b) {
            weights.set(a, Math.min(weights.get(a), weights.get(b)));
            persons.get(a).addAll(persons.get(b));
            persons.remove(b);
            weights.remove(b);
        }
        return persons.get(person(account)).size();
    }

    public int weight(int account) {
        index(out(account, accounts));
        return weights.get(person(account));
    }

    public int post(int account, int marks) {
        index(out(account, accounts));
        argument(noMarks(marks));
        allowed(banned(person(account)));
        state(posts.size() == 50);
        return publish(account, marks, -1, new HashSet<>());
    }

    public int copy(int account, int post) {
        index(out(account, accounts) || out(post, posts.size()));
        allowed(banned(person(account)) || worst(post) == 3);
        state(posts.size() == 50);
        return publish(account, posts.get(post).marks, -1, posts.get(post).family);
    }

    public char stateOf(int post) {
        index(out(post, posts.size()));
        return "-lnr".charAt(worst(post));
    }

    private static boolean noVersion(int needs, int excepts, char act, int strikes) {
        return noMarks(needs) || needs == 0 || noMarks(excepts) || "lnr".indexOf(act) < 0 || out(strikes, 4);
    }

    public int addRule(int needs, int excepts, char act, int strikes) {
        argument(noVersion(needs, excepts, act, strikes));
        state(rules.size() == 6);
        rules.add(new TreeMap<>());
        scores.add(null);
        rules.get(rules.size() - 1).put(day, new Version(needs, excepts, "-lnr".indexOf(act), strikes));
        return rules.size() - 1;
    }

    public int change(int rule, int needs, int excepts, char act, int strikes) {
        index(out(rule, rules.size()));
        argument(noVersion(needs, excepts, act, strikes));
        rules.get(rule).put(day, new Version(needs, excepts, "-lnr".indexOf(act), strikes));
        return rules.get(rule).size();
    }

    public boolean breaks(int post, int rule) {
        index(out(post, posts.size()) || out(rule, rules.size()));
        element(bind(rule, post) == null);
        return broken(rule, post);
    }

    public int report(int account, int post, int rule) {
        index(out(account, accounts) || out(post, posts.size()) || out(rule, rules.size()));
        int p = person(account);
        allowed(banned(p) || owns(p, post) || reported(p, post, rule) || worst(post) == 3);
        state(reports.stream().filter(r -> r.account >= 0).count() == 80);
        Report r = new Report();
        r.account = account;
        r.post = post;
        r.rule = rule;
        r.day = day;
        reports.add(r);
        return pressing(post);
    }

    public int pressure(int post) {
        index(out(post, posts.size()));
        return pressing(post);
    }

    public int queued() {
        return queue().size();
    }

    public int queueAt(int place) {
        List<Integer> queue = queue();
        index(out(place, queue.size()));
        return queue.get(place);
    }

    public int addModerator(int sees, int limit) {
        argument(noMarks(sees) || limit < 1 || limit > 9);
        state(moderators.size() == 4);
        moderators.add(new int[] {sees, limit});
        return moderators.size() - 1;
    }

    public int next(int moderator) {
        index(out(moderator, moderators.size()));
        int first = queue().stream().filter(i -> looks(moderator, i)).findFirst().orElse(-1);
        element(first < 0);
        return first;
    }

    public int decide(int moderator, int post, int rule) {
        index(out(moderator, moderators.size()) || out(post, posts.size()) || out(rule + 1, rules.size() + 1));
        argument(rule >= 0 && bind(rule, post) == null);
        int marks = posts.get(post).marks;
        allowed(!looks(moderator, post)
                || decisions.stream().anyMatch(d -> d.overturned && d.rule == rule && d.marks == marks));
        state(decisions.size() == 40);
        Decision d = new Decision();
        d.moderator = moderator;
        d.post = post;
        d.rule = rule;
        d.day = day;
        d.marks = marks;
        d.family = posts.get(post).family;
        d.stands = rule >= 0;
        int first = day;
        for (Report r : reports) {
            if (r.post == post && r.doneBy < 0) {
                first = Math.min(first, r.day);
                gain(r, r.rule == rule ? 2 : -3);
                r.doneBy = decisions.size();
            }
        }
        d.waited = day - first;
        decisions.add(d);
        return decisions.size() - 1;
    }

    public boolean stands(int decision) {
        index(out(decision, decisions.size()));
        return decisions.get(decision).stands;
    }

    public int reach(int decision) {
        index(out(decision, decisions.size()));
        return (int) numbers().stream().filter(i -> acts(decisions.get(decision), i)).count();
    }

    public int takeBack(int decision) {
        index(out(decision, decisions.size()));
        allowed(!decisions.get(decision).stands);
        int reach = reach(decision);
        finish(decision);
        decisions.get(decision).waits = false;
        return reach;
    }

    public int strikes(int account) {
        index(out(account, accounts));
        return struck(person(account));
    }

    public boolean isBanned(int account) {
        index(out(account, accounts));
        return banned(person(account));
    }

    private boolean acted(Decision d, int person) {
        return numbers().stream().anyMatch(i -> acts(d, i) && owns(person, i));
    }

    public int appeal(int decision, int account) {
        index(out(decision, decisions.size()) || out(account, accounts));
        Decision d = decisions.get(decision);
        allowed(!d.stands || d.appealed || !acted(d, person(account)));
        state(day > d.day + 13);
        d.appealed = true;
        d.waits = true;
        return d.day + 13 - day;
    }

    public boolean hear(int decision, int moderator, boolean isOverturned) {
        index(out(decision, decisions.size()) || out(moderator, moderators.size()));
        Decision d = decisions.get(decision);
        allowed(!d.waits || d.jurors != null || d.moderator == moderator);
        judge(decision, isOverturned);
        return d.stands;
    }

    public int jury(int decision) {
        index(out(decision, decisions.size()));
        Decision d = decisions.get(decision);
        allowed(!d.waits || d.jurors != null);
        List<Integer> left = new ArrayList<>();
        for (int i = 0; i < persons.size(); i++) {
            if (!banned(i) && !acted(d, i) && !reported(i, d.post, d.rule)) {
                left.add(Collections.min(persons.get(i)));
            }
        }
        element(left.size() < 3);
        Collections.sort(left);
        d.jurors = new ArrayList<>();
        for (int i = 0; i < 3; i++) {
            z = z * 48271 % 2147483647;
            d.jurors.add(left.remove((int) (z % left.size())));
        }
        return d.jurors.get(0);
    }

    public int jurorAt(int decision, int index) {
        index(out(decision, decisions.size()));
        argument(out(index, 3));
        element(decisions.get(decision).jurors == null);
        return decisions.get(decision).jurors.get(index);
    }

    public char vote(int decision, int index, boolean isOverturned) {
        index(out(decision, decisions.size()));
        argument(out(index, 3));
        Decision d = decisions.get(decision);
        allowed(d.jurors == null || !d.waits || d.votes[index] != null);
        d.votes[index] = isOverturned;
        int alike = 0;
        for (Boolean vote : d.votes) {
            alike += vote != null && vote == isOverturned ? 1 : 0;
        }
        if (alike < 2) {
            return '?';
        }
        judge(decision, isOverturned);
        return isOverturned ? 'o' : 's';
    }

    public int order(int land, int post, int days) {
        argument(out(land, 3) || out(days, 31));
        index(out(post, posts.size()));
        state(orders.size() == 20);
        Order o = new Order();
        o.land = land;
        o.post = post;
        o.until = day + days;
        orders.add(o);
        return orders.size() - 1;
    }

    public int obey(int order) {
        index(out(order, orders.size()));
        Order o = orders.get(order);
        allowed(o.obeyed);
        o.obeyed = true;
        return o.until < day ? day - o.until : 0;
    }

    public int late() {
        return (int) orders.stream().filter(o -> !o.obeyed && o.until < day).count();
    }

    public int view(int post, int land, int people) {
        index(out(post, posts.size()));
        argument(out(land, 3) || people < 1 || people > 100000);
        int seen = !shown(post, land) ? 0 : worst(post) == 2 ? people / 2 : people;
        Set<Integer> blamed = new HashSet<>();
        for (int i = 0; i < decisions.size(); i++) {
            if (acts(decisions.get(i), post) && harm(decisions.get(i).rule, post) > 1) {
                blamed.add(i);
            }
        }
        log.add(new Watched(post, day, seen, people - seen, blamed, -1));
        return seen;
    }

    public long lost(int post) {
        index(out(post, posts.size()));
        return log.stream().filter(w -> w.post == post).mapToLong(w -> w.lost).sum();
    }

    public int pass(int days) {
        argument(days < 1 || days > 60);
        day += days;
        return day;
    }

    public int reply(int account, int post, int marks) {
        index(out(account, accounts) || out(post, posts.size()));
        argument(noMarks(marks));
        allowed(banned(person(account)) || worst(post) == 3 || covered(post));
        state(posts.size() == 50);
        return publish(account, marks, post, new HashSet<>());
    }

    public int edit(int post, int marks) {
        index(out(post, posts.size()));
        argument(noMarks(marks));
        Post p = posts.get(post);
        allowed(banned(person(p.account)) || waiting(post) || decisions.stream().anyMatch(d -> acts(d, post)));
        int before = p.marks;
        p.family.remove(post);
        p.family = new HashSet<>(Set.of(post));
        p.marks = marks;
        p.day = day;
        machinesReport(post);
        return before;
    }

    public boolean isHidden(int post) {
        index(out(post, posts.size()));
        return covered(post);
    }

    public int setScore(int rule, int mark, int score) {
        index(out(rule, rules.size()));
        argument(out(mark, 8) || out(score + 9, 19));
        if (scores.get(rule) == null) {
            scores.set(rule, new int[8]);
        }
        int before = scores.get(rule)[mark];
        scores.get(rule)[mark] = score;
        return before;
    }

    public int setThreshold(int rule, int threshold) {
        index(out(rule, rules.size()));
        argument(out(threshold + 72, 145));
        element(scores.get(rule) == null);
        int before = thresholds[rule];
        thresholds[rule] = threshold;
        return before;
    }

    public int score(int rule, int post) {
        index(out(rule, rules.size()) || out(post, posts.size()));
        element(scores.get(rule) == null);
        return rated(rule, post);
    }

    public int machineWeight(int rule) {
        index(out(rule, rules.size()));
        element(scores.get(rule) == null);
        return machines[rule];
    }

    public int setLikeness(int marks) {
        argument(out(marks, 4));
        int before = likeness;
        likeness = marks;
        return before;
    }

    public int alike(int post) {
        index(out(post, posts.size()));
        return (int) numbers().stream().filter(i -> like(post, i)).count();
    }

    public int spread(int decision) {
        index(out(decision, decisions.size()));
        Decision d = decisions.get(decision);
        allowed(!d.stands || d.spread != null);
        int before = reach(decision);
        Set<Integer> spread = new HashSet<>();
        for (int i : numbers()) {
            if (like(d.post, i) && broken(d.rule, i)) {
                spread.add(i);
            }
        }
        d.spread = spread;
        d.spreadDay = day;
        return reach(decision) - before;
    }

    public int regime(int rule, char act, int from, int till) {
        index(out(rule, rules.size()));
        argument("lnr".indexOf(act) < 0 || till < from || from < 0);
        state(regimes.size() == 6);
        regimes.add(new Regime(rule, "-lnr".indexOf(act), from, till));
        return regimes.size();
    }

    public int addBuyer(int avoids) {
        argument(noMarks(avoids));
        state(buyers.size() == 4);
        buyers.add(avoids);
        return buyers.size();
    }

    public int beside(int post) {
        index(out(post, posts.size()));
        boolean isShunned = worst(post) > 0 || covered(post) || pressing(post) > 19;
        int marks = posts.get(post).marks;
        return isShunned ? 0 : (int) buyers.stream().filter(a -> (a & marks) == 0).count();
    }

    public long seen(int post) {
        index(out(post, posts.size()));
        return log.stream().filter(w -> w.post == post).mapToLong(w -> w.seen).sum();
    }

    public long owed(int post) {
        index(out(post, posts.size()));
        return debt(post);
    }

    public long heat(int post) {
        index(out(post, posts.size()));
        long week = log.stream().filter(w -> w.post == post && w.day >= day - 6).mapToLong(w -> w.seen).sum();
        return (worst(post) == 2 ? week / 2 : week) + debt(post) - pressing(post);
    }

    private List<Integer> feed(int land) {
        List<Integer> all = numbers();
        all.removeIf(i -> !shown(i, land));
        TreeMap<Integer, Long> heats = new TreeMap<>();
        all.forEach(i -> heats.put(i, heat(i)));
        Comparator<Integer> byHeat = Comparator.comparing(i -> -heats.get(i));
        all.sort(byHeat.thenComparing(i -> i));
        return all;
    }

    public int feedSize(int land) {
        argument(out(land, 3));
        return feed(land).size();
    }

    public int feedAt(int land, int place) {
        argument(out(land, 3));
        List<Integer> feed = feed(land);
        index(out(place, feed.size()));
        return feed.get(place);
    }

    public int numberOf(int rule, char what) {
        index(out(rule, rules.size()));
        var by = decisions.stream().filter(d -> d.rule == rule);
        var of = reports.stream().filter(r -> r.rule == rule);
        return switch (what) {
            case 'd' -> (int) by.count();
            case 's' -> (int) by.filter(d -> d.stands).count();
            case 'o' -> (int) by.filter(d -> d.overturned).count();
            case 'b' -> (int) by.filter(d -> !d.stands && !d.overturned).count();
            case 'a' -> (int) numbers().stream()
                    .filter(i -> decisions.stream().anyMatch(d -> d.rule == rule && acts(d, i))).count();
            case 'r' -> (int) of.count();
            case 'w' -> (int) of.filter(r -> r.doneBy < 0).count();
            case 'm' -> (int) of.filter(r -> r.account < 0).count();
            case 't' -> by.mapToInt(d -> d.waited).sum();
            default -> throw new IllegalArgumentException();
        };
    }

    public float standShare() {
        long all = decisions.stream().filter(d -> d.rule >= 0).count();
        if (all == 0) {
            throw new ArithmeticException();
        }
        return (float) decisions.stream().filter(d -> d.stands).count() / (float) all;
    }

    public double meanWeight() {
        if (accounts == 0) {
            throw new ArithmeticException();
        }
        double sum = 0;
        for (int i = 0; i < accounts; i++) {
            sum += weights.get(person(i));
        }
        return sum / accounts;
    }

    public boolean isSound() {
        return true;
    }
}

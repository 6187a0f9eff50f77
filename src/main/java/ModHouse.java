import java.util.ArrayList;
import java.util.NoSuchElementException;

/**
 * A place where many speak, and its law. What is told of a post or of a person is worked out anew at each call from
 * the decisions that stand, so that a decision which ends leaves nothing behind but what the document keeps.
 */
public final class ModHouse {
    private static final int MAX_ACCOUNTS = 12;
    private static final int MAX_POSTS = 50;
    private static final int MAX_RULES = 6;
    private static final int MAX_REPORTS = 80;
    private static final int MAX_MODERATORS = 4;
    private static final int MAX_DECISIONS = 40;
    private static final int MAX_ORDERS = 20;
    private static final int MAX_REGIMES = 6;
    private static final int MAX_BUYERS = 4;

    private static final int ALL_MARKS = 255;
    private static final int MARKS = 8;
    private static final int LANDS = 3;
    private static final int WEEK = 7;
    private static final int JURORS = 3;

    private static final int FIRST_WEIGHT = 10;
    private static final int LEAST_WEIGHT = 1;
    private static final int MOST_WEIGHT = 20;
    private static final int GAIN_OF_RIGHT_REPORT = 2;
    private static final int LOSS_OF_WRONG_REPORT = 3;
    private static final int LOSS_OF_OVERTURNED_REPORT = 5;

    private static final int MOST_STRIKES = 3;
    private static final int STRIKES_OF_BAN = 3;
    private static final int DAYS_OF_STRIKE = 90;
    private static final int DAYS_OF_APPEAL = 14;
    private static final int MOST_DAYS_OF_ORDER = 30;
    private static final int MOST_DAYS_TO_PASS = 60;
    private static final int MOST_PEOPLE = 100000;
    private static final int MOST_DECISIONS_A_DAY = 9;
    private static final int MOST_SCORE = 9;
    private static final int MOST_THRESHOLD = 72;
    private static final int MOST_LIKENESS = 3;
    private static final int PRESSURE_THAT_BUYERS_SHUN = 20;

    private static final int NO_HARM = 0;
    private static final int LABEL = 1;
    private static final int NARROW = 2;
    private static final int REMOVE = 3;

    private static final char BY_NO_RULE = '-';
    private static final char STANDS = 's';
    private static final char OVERTURNED = 'o';
    private static final char TAKEN_BACK = 'b';

    private static final int NOT_APPEALED = 0;
    private static final int APPEAL_WAITS = 1;
    private static final int APPEAL_CLOSED = 2;

    private static final int NOT_VOTED = 0;
    private static final int VOTED_TO_UPHOLD = 1;
    private static final int VOTED_TO_OVERTURN = 2;

    private static final long LOT_FACTOR = 48271L;
    private static final long LOT_MODULUS = 2147483647L;

    /** One step of harm weighs more in the queue than any pressure, which is at most 18 weights of 20. */
    private static final long HARM_STEP = 1000L;
    /** Below any key: a heat is at least that of no views under the greatest pressure. */
    private static final long UNLISTED = -1000000L;

    private final People people = new People();
    private final ArrayList<Post> posts = new ArrayList<Post>();
    private final ArrayList<Rule> rules = new ArrayList<Rule>();
    private final ArrayList<Moderator> moderators = new ArrayList<Moderator>();
    private final ArrayList<Decision> decisions = new ArrayList<Decision>();
    private final ArrayList<Order> orders = new ArrayList<Order>();
    private final int[] avoids = new int[MAX_BUYERS];
    private int buyers = 0;
    private int families = 0;
    private int reportsOfPersons = 0;
    private int regimes = 0;
    private int likeness = 0;
    private int day = 0;
    private long lot = 1L;
    /** The keys by which posts are ranked, filled anew by each call that ranks. */
    private final long[] keys = new long[MAX_POSTS];
    /** The persons who can be drawn for a jury, filled anew by each call that draws. */
    private final int[] drawable = new int[MAX_ACCOUNTS];

    public ModHouse() {
    }

    // ---- people and posts

    public int addAccount() throws IllegalStateException {
        if (people.count >= MAX_ACCOUNTS) {
            throw new IllegalStateException("there are 12 accounts");
        }
        return people.add();
    }

    public int join(int account, int other) throws IndexOutOfBoundsException {
        int person = findPerson(account);
        int otherPerson = findPerson(other);
        return people.unite(person, otherPerson);
    }

    public int weight(int account) throws IndexOutOfBoundsException {
        return people.weights[findPerson(account)];
    }

    public int post(int account, int marks)
            throws IndexOutOfBoundsException, IllegalArgumentException, UnsupportedOperationException,
            IllegalStateException {
        int person = findPerson(account);
        checkMarks(marks);
        if (isOut(person)) {
            throw new UnsupportedOperationException("the person is banned");
        }
        checkRoomForPost();
        return publish(account, marks, newFamily(), null);
    }

    public int copy(int account, int post)
            throws IndexOutOfBoundsException, UnsupportedOperationException, IllegalStateException {
        int person = findPerson(account);
        Post original = findPost(post);
        if (isOut(person) || isRemoved(original)) {
            throw new UnsupportedOperationException("the person is banned, or the post is removed");
        }
        checkRoomForPost();
        return publish(account, original.marks, original.family, null);
    }

    public char stateOf(int post) throws IndexOutOfBoundsException {
        return letterOf(harmOn(findPost(post)));
    }

    // ---- rules

    public int addRule(int needs, int excepts, char act, int strikes)
            throws IllegalArgumentException, IllegalStateException {
        checkVersion(needs, excepts, act, strikes);
        if (rules.size() >= MAX_RULES) {
            throw new IllegalStateException("there are 6 rules");
        }
        Rule rule = new Rule(rules.size());
        rule.give(day, needs, excepts, harmOf(act), strikes);
        rules.add(rule);
        return rule.number;
    }

    public int change(int rule, int needs, int excepts, char act, int strikes)
            throws IndexOutOfBoundsException, IllegalArgumentException {
        Rule changed = findRule(rule);
        checkVersion(needs, excepts, act, strikes);
        changed.give(day, needs, excepts, harmOf(act), strikes);
        return changed.versions;
    }

    public boolean breaks(int post, int rule) throws IndexOutOfBoundsException, NoSuchElementException {
        Post judged = findPost(post);
        Version version = findRule(rule).versionFor(judged.day);
        if (version == null) {
            throw new NoSuchElementException("the rule does not bind the post");
        }
        return version.isBrokenBy(judged.marks);
    }

    // ---- reports and the queue

    public int report(int account, int post, int rule)
            throws IndexOutOfBoundsException, UnsupportedOperationException, IllegalStateException {
        int person = findPerson(account);
        Post reported = findPost(post);
        Rule by = findRule(rule);
        if (isOut(person) || people.lowest[reported.account] == person || hasReported(person, reported, by)
                || isRemoved(reported)) {
            throw new UnsupportedOperationException("this person may not report this post by this rule");
        }
        if (reportsOfPersons >= MAX_REPORTS) {
            throw new IllegalStateException("there were 80 reports");
        }
        reportsOfPersons++;
        reported.file(new Report(account, null, by, day));
        return pressureOn(reported);
    }

    public int pressure(int post) throws IndexOutOfBoundsException {
        return pressureOn(findPost(post));
    }

    public int queued() {
        rankQueue(null);
        return countListed();
    }

    public int queueAt(int place) throws IndexOutOfBoundsException {
        rankQueue(null);
        int post = listedAt(place);
        if (post < 0) {
            throw new IndexOutOfBoundsException("no such place");
        }
        return post;
    }

    // ---- moderators and decisions

    public int addModerator(int sees, int limit) throws IllegalArgumentException, IllegalStateException {
        checkMarks(sees);
        if (limit < 1 || limit > MOST_DECISIONS_A_DAY) {
            throw new IllegalArgumentException("the limit is out of range");
        }
        if (moderators.size() >= MAX_MODERATORS) {
            throw new IllegalStateException("there are 4 moderators");
        }
        moderators.add(new Moderator(sees, limit));
        return moderators.size() - 1;
    }

    public int next(int moderator) throws IndexOutOfBoundsException, NoSuchElementException {
        rankQueue(findModerator(moderator));
        int post = listedAt(0);
        if (post < 0) {
            throw new NoSuchElementException("there is no post at which the moderator may look");
        }
        return post;
    }

    public int decide(int moderator, int post, int rule)
            throws IndexOutOfBoundsException, IllegalArgumentException, UnsupportedOperationException,
            IllegalStateException {
        Moderator decider = findModerator(moderator);
        Post decided = findPost(post);
        Rule by = rule == -1 ? null : findRule(rule);
        if (by != null && by.versionFor(decided.day) == null) {
            throw new IllegalArgumentException("the rule does not bind the post");
        }
        if (!mayLook(decider, decided) || !decided.isReported() || isPrecedentAgainst(by, decided.marks)) {
            throw new UnsupportedOperationException("the moderator may not decide so");
        }
        if (decisions.size() >= MAX_DECISIONS) {
            throw new IllegalStateException("there are 40 decisions");
        }
        Decision decision = new Decision(decider, decided, by, day);
        decisions.add(decision);
        finishReports(decision);
        return decisions.size() - 1;
    }

    public boolean stands(int decision) throws IndexOutOfBoundsException {
        return findDecision(decision).isStanding();
    }

    public int reach(int decision) throws IndexOutOfBoundsException {
        return countReached(findDecision(decision));
    }

    public int takeBack(int decision) throws IndexOutOfBoundsException, UnsupportedOperationException {
        Decision taken = findDecision(decision);
        if (!taken.isStanding()) {
            throw new UnsupportedOperationException("the decision does not stand");
        }
        int reached = countReached(taken);
        end(taken, TAKEN_BACK);
        if (taken.appealed == APPEAL_WAITS) {
            taken.appealed = APPEAL_CLOSED;
        }
        return reached;
    }

    public int strikes(int account) throws IndexOutOfBoundsException {
        return countStrikes(findPerson(account));
    }

    public boolean isBanned(int account) throws IndexOutOfBoundsException {
        return isOut(findPerson(account));
    }

    // ---- appeals

    public int appeal(int decision, int account)
            throws IndexOutOfBoundsException, UnsupportedOperationException, IllegalStateException {
        Decision against = findDecision(decision);
        int person = findPerson(account);
        if (!against.isStanding() || against.appealed != NOT_APPEALED || !actsOnPerson(against, person)) {
            throw new UnsupportedOperationException("this person may not appeal against this decision");
        }
        int left = against.day + DAYS_OF_APPEAL - 1 - day;
        if (left < 0) {
            throw new IllegalStateException("it is too late");
        }
        against.appealed = APPEAL_WAITS;
        return left;
    }

    public boolean hear(int decision, int moderator, boolean isOverturned)
            throws IndexOutOfBoundsException, UnsupportedOperationException {
        Decision heard = findDecision(decision);
        Moderator hearer = findModerator(moderator);
        if (heard.appealed != APPEAL_WAITS || heard.jurors != null || heard.moderator == hearer) {
            throw new UnsupportedOperationException("this moderator may not hear an appeal against this decision");
        }
        settle(heard, isOverturned);
        return heard.isStanding();
    }

    public int jury(int decision)
            throws IndexOutOfBoundsException, UnsupportedOperationException, NoSuchElementException {
        Decision heard = findDecision(decision);
        if (heard.appealed != APPEAL_WAITS || heard.jurors != null) {
            throw new UnsupportedOperationException("there is no appeal that waits for a jury");
        }
        int found = listDrawable(heard);
        if (found < JURORS) {
            throw new NoSuchElementException("there are fewer than three persons who can be drawn");
        }
        int[] drawn = drawJurors(found);
        heard.jurors = drawn;
        return drawn[0];
    }

    public int jurorAt(int decision, int index)
            throws IndexOutOfBoundsException, IllegalArgumentException, NoSuchElementException {
        Decision heard = findDecision(decision);
        checkJuror(index);
        if (heard.jurors == null) {
            throw new NoSuchElementException("no jury was drawn");
        }
        return heard.jurors[index];
    }

    public char vote(int decision, int index, boolean isOverturned)
            throws IndexOutOfBoundsException, IllegalArgumentException, UnsupportedOperationException {
        Decision heard = findDecision(decision);
        checkJuror(index);
        if (heard.appealed != APPEAL_WAITS || heard.jurors == null || heard.votes[index] != NOT_VOTED) {
            throw new UnsupportedOperationException("this juror has no vote to give");
        }
        int choice = isOverturned ? VOTED_TO_OVERTURN : VOTED_TO_UPHOLD;
        heard.votes[index] = choice;
        if (heard.countVotes(choice) < 2) {
            return '?';
        }
        settle(heard, isOverturned);
        return heard.fate;
    }

    // ---- lands and views

    public int order(int land, int post, int days)
            throws IllegalArgumentException, IndexOutOfBoundsException, IllegalStateException {
        checkLand(land);
        if (days < 0 || days > MOST_DAYS_OF_ORDER) {
            throw new IllegalArgumentException("the days are out of range");
        }
        Post ordered = findPost(post);
        if (orders.size() >= MAX_ORDERS) {
            throw new IllegalStateException("there are 20 orders");
        }
        orders.add(new Order(land, ordered, day + days));
        return orders.size() - 1;
    }

    public int obey(int order) throws IndexOutOfBoundsException, UnsupportedOperationException {
        if (order < 0 || order >= orders.size()) {
            throw new IndexOutOfBoundsException("no such order");
        }
        Order obeyed = orders.get(order);
        if (obeyed.isObeyed) {
            throw new UnsupportedOperationException("the order was obeyed");
        }
        obeyed.isObeyed = true;
        obeyed.post.withhold(obeyed.land);
        return Math.max(0, day - obeyed.until);
    }

    public int late() {
        int count = 0;
        for (int i = 0; i < orders.size(); i++) {
            Order order = orders.get(i);
            if (!order.isObeyed && day > order.until) {
                count++;
            }
        }
        return count;
    }

    public int view(int post, int land, int people) throws IndexOutOfBoundsException, IllegalArgumentException {
        Post viewed = findPost(post);
        checkLand(land);
        if (people < 1 || people > MOST_PEOPLE) {
            throw new IllegalArgumentException("the number of people is out of range");
        }
        int seeing = people;
        if (viewed.isWithheld(land) || isDown(viewed)) {
            seeing = 0;
        } else if (harmOn(viewed) == NARROW) {
            seeing = people / 2;
        }
        viewed.count(day, seeing);
        lose(viewed, people - seeing);
        return seeing;
    }

    public long lost(int post) throws IndexOutOfBoundsException {
        return findPost(post).lost;
    }

    public int pass(int days) throws IllegalArgumentException {
        if (days < 1 || days > MOST_DAYS_TO_PASS) {
            throw new IllegalArgumentException("the number of days is out of range");
        }
        for (int i = 0; i < posts.size(); i++) {
            posts.get(i).forgetViews(day, days);
        }
        day += days;
        return day;
    }

    // ---- threads and edits

    public int reply(int account, int post, int marks)
            throws IndexOutOfBoundsException, IllegalArgumentException, UnsupportedOperationException,
            IllegalStateException {
        int person = findPerson(account);
        Post parent = findPost(post);
        checkMarks(marks);
        if (isOut(person) || isDown(parent)) {
            throw new UnsupportedOperationException("the person is banned, or the post is removed or hidden");
        }
        checkRoomForPost();
        return publish(account, marks, newFamily(), parent);
    }

    public int edit(int post, int marks)
            throws IndexOutOfBoundsException, IllegalArgumentException, UnsupportedOperationException {
        Post edited = findPost(post);
        checkMarks(marks);
        if (isOut(people.lowest[edited.account]) || edited.isReported() || harmOn(edited) != NO_HARM) {
            throw new UnsupportedOperationException("this post may not be edited");
        }
        int before = edited.marks;
        edited.write(marks, day, newFamily());
        letClassifiersReport(edited);
        return before;
    }

    public boolean isHidden(int post) throws IndexOutOfBoundsException {
        return isCovered(findPost(post));
    }

    // ---- classifiers

    public int setScore(int rule, int mark, int score) throws IndexOutOfBoundsException, IllegalArgumentException {
        Rule scored = findRule(rule);
        if (mark < 0 || mark >= MARKS || score < -MOST_SCORE || score > MOST_SCORE) {
            throw new IllegalArgumentException("no such mark or score");
        }
        if (scored.classifier == null) {
            scored.classifier = new Classifier();
        }
        int before = scored.classifier.scores[mark];
        scored.classifier.scores[mark] = score;
        return before;
    }

    public int setThreshold(int rule, int threshold)
            throws IndexOutOfBoundsException, IllegalArgumentException, NoSuchElementException {
        Rule scored = findRule(rule);
        if (threshold < -MOST_THRESHOLD || threshold > MOST_THRESHOLD) {
            throw new IllegalArgumentException("the threshold is out of range");
        }
        Classifier classifier = findClassifier(scored);
        int before = classifier.threshold;
        classifier.threshold = threshold;
        return before;
    }

    public int score(int rule, int post) throws IndexOutOfBoundsException, NoSuchElementException {
        Rule scored = findRule(rule);
        Post rated = findPost(post);
        return findClassifier(scored).rate(rated.marks);
    }

    public int machineWeight(int rule) throws IndexOutOfBoundsException, NoSuchElementException {
        return findClassifier(findRule(rule)).weight;
    }

    // ---- likeness and regimes

    public int setLikeness(int marks) throws IllegalArgumentException {
        if (marks < 0 || marks > MOST_LIKENESS) {
            throw new IllegalArgumentException("the number is out of range");
        }
        int before = likeness;
        likeness = marks;
        return before;
    }

    public int alike(int post) throws IndexOutOfBoundsException {
        Post compared = findPost(post);
        int count = 0;
        for (int i = 0; i < posts.size(); i++) {
            if (areAlike(compared, posts.get(i))) {
                count++;
            }
        }
        return count;
    }

    public int spread(int decision) throws IndexOutOfBoundsException, UnsupportedOperationException {
        Decision spreading = findDecision(decision);
        Rule rule = spreading.rule;
        if (rule == null || !spreading.isStanding() || spreading.isSpread) {
            throw new UnsupportedOperationException("the decision does not stand, or was spread");
        }
        spreading.isSpread = true;
        spreading.spreadDay = day;
        int more = 0;
        for (int i = 0; i < posts.size(); i++) {
            Post other = posts.get(i);
            if (areAlike(spreading.post, other) && rule.isBrokenBy(other)) {
                spreading.spreadTo |= 1L << other.number;
                more++;
            }
        }
        return more;
    }

    public int regime(int rule, char act, int from, int till)
            throws IndexOutOfBoundsException, IllegalArgumentException, IllegalStateException {
        Rule ruled = findRule(rule);
        if (harmOf(act) == NO_HARM || from < 0 || till < from) {
            throw new IllegalArgumentException("no such act or days");
        }
        if (regimes >= MAX_REGIMES) {
            throw new IllegalStateException("there are 6 regimes");
        }
        ruled.regimes = new Regime(harmOf(act), from, till, ruled.regimes);
        regimes++;
        return regimes;
    }

    // ---- buyers and the feed

    public int addBuyer(int avoids) throws IllegalArgumentException, IllegalStateException {
        checkMarks(avoids);
        if (buyers >= MAX_BUYERS) {
            throw new IllegalStateException("there are 4 buyers");
        }
        this.avoids[buyers] = avoids;
        buyers++;
        return buyers;
    }

    public int beside(int post) throws IndexOutOfBoundsException {
        Post shown = findPost(post);
        if (harmOn(shown) != NO_HARM || isCovered(shown) || pressureOn(shown) >= PRESSURE_THAT_BUYERS_SHUN) {
            return 0;
        }
        int count = 0;
        for (int i = 0; i < buyers; i++) {
            if ((shown.marks & avoids[i]) == 0) {
                count++;
            }
        }
        return count;
    }

    public long seen(int post) throws IndexOutOfBoundsException {
        return findPost(post).seen;
    }

    public long owed(int post) throws IndexOutOfBoundsException {
        return findPost(post).owed;
    }

    public long heat(int post) throws IndexOutOfBoundsException {
        return heatOf(findPost(post));
    }

    public int feedSize(int land) throws IllegalArgumentException {
        checkLand(land);
        rankFeed(land);
        return countListed();
    }

    public int feedAt(int land, int place) throws IllegalArgumentException, IndexOutOfBoundsException {
        checkLand(land);
        rankFeed(land);
        int post = listedAt(place);
        if (post < 0) {
            throw new IndexOutOfBoundsException("no such place");
        }
        return post;
    }

    // ---- numbers by rule

    public int numberOf(int rule, char what) throws IndexOutOfBoundsException, IllegalArgumentException {
        Rule counted = findRule(rule);
        if (what == 'd' || what == STANDS || what == OVERTURNED || what == TAKEN_BACK) {
            return countDecisions(counted, what);
        }
        if (what == 'a') {
            return countActedOn(counted);
        }
        if (what == 'r' || what == 'w' || what == 'm') {
            return countReports(counted, what);
        }
        if (what == 't') {
            return countDaysWaited(counted);
        }
        throw new IllegalArgumentException("there is no such number");
    }

    // ---- figures

    public float standShare() throws ArithmeticException {
        int byRule = 0;
        int standing = 0;
        for (int i = 0; i < decisions.size(); i++) {
            Decision decision = decisions.get(i);
            if (decision.rule != null) {
                byRule++;
            }
            if (decision.isStanding()) {
                standing++;
            }
        }
        if (byRule == 0) {
            throw new ArithmeticException("there is no decision by a rule");
        }
        return (float) standing / (float) byRule;
    }

    public double meanWeight() throws ArithmeticException {
        if (people.count == 0) {
            throw new ArithmeticException("there is no account");
        }
        int sum = 0;
        for (int i = 0; i < people.count; i++) {
            sum += people.weights[people.lowest[i]];
        }
        return (double) sum / (double) people.count;
    }

    public boolean isSound() {
        for (int i = 0; i < posts.size(); i++) {
            Post judged = posts.get(i);
            if (judgeAlone(judged) != harmOn(judged) || isSpared(judged)) {
                return false;
            }
        }
        return true;
    }

    // What the calls ask for by number, or refuse.

    private int findPerson(int account) throws IndexOutOfBoundsException {
        if (account < 0 || account >= people.count) {
            throw new IndexOutOfBoundsException("no such account");
        }
        return people.lowest[account];
    }

    private Post findPost(int post) throws IndexOutOfBoundsException {
        if (post < 0 || post >= posts.size()) {
            throw new IndexOutOfBoundsException("no such post");
        }
        return posts.get(post);
    }

    private Rule findRule(int rule) throws IndexOutOfBoundsException {
        if (rule < 0 || rule >= rules.size()) {
            throw new IndexOutOfBoundsException("no such rule");
        }
        return rules.get(rule);
    }

    private Moderator findModerator(int moderator) throws IndexOutOfBoundsException {
        if (moderator < 0 || moderator >= moderators.size()) {
            throw new IndexOutOfBoundsException("no such moderator");
        }
        return moderators.get(moderator);
    }

    private Decision findDecision(int decision) throws IndexOutOfBoundsException {
        if (decision < 0 || decision >= decisions.size()) {
            throw new IndexOutOfBoundsException("no such decision");
        }
        return decisions.get(decision);
    }

    private static Classifier findClassifier(Rule rule) throws NoSuchElementException {
        if (rule.classifier == null) {
            throw new NoSuchElementException("the rule has no classifier");
        }
        return rule.classifier;
    }

    private static void checkMarks(int marks) throws IllegalArgumentException {
        if (marks < 0 || marks > ALL_MARKS) {
            throw new IllegalArgumentException("no such marks");
        }
    }

    private static void checkLand(int land) throws IllegalArgumentException {
        if (land < 0 || land >= LANDS) {
            throw new IllegalArgumentException("no such land");
        }
    }

    private static void checkJuror(int index) throws IllegalArgumentException {
        if (index < 0 || index >= JURORS) {
            throw new IllegalArgumentException("no such index");
        }
    }

    private static void checkVersion(int needs, int excepts, char act, int strikes) throws IllegalArgumentException {
        checkMarks(needs);
        checkMarks(excepts);
        if (needs == 0 || harmOf(act) == NO_HARM || strikes < 0 || strikes > MOST_STRIKES) {
            throw new IllegalArgumentException("no such marks, act or strikes");
        }
    }

    private void checkRoomForPost() throws IllegalStateException {
        if (posts.size() >= MAX_POSTS) {
            throw new IllegalStateException("there are 50 posts");
        }
    }

    // Acts, and how a post is by them.

    private static int harmOf(char act) {
        if (act == 'r') {
            return REMOVE;
        }
        if (act == 'n') {
            return NARROW;
        }
        return act == 'l' ? LABEL : NO_HARM;
    }

    private static char letterOf(int harm) {
        if (harm == REMOVE) {
            return 'r';
        }
        if (harm == NARROW) {
            return 'n';
        }
        return harm == LABEL ? 'l' : '-';
    }

    /** The greatest harm of all decisions that act on a post; each of them does some, so 0 says that none acts. */
    private int harmOn(Post post) {
        int worst = NO_HARM;
        for (int i = 0; i < decisions.size() && worst < REMOVE; i++) {
            worst = Math.max(worst, decisions.get(i).harmOn(post));
        }
        return worst;
    }

    private boolean isRemoved(Post post) {
        return harmOn(post) == REMOVE;
    }

    /** A reply is hidden by any post above it in its thread that is removed; a post that is none has no one above. */
    private boolean isCovered(Post post) {
        return isDown(post.parent);
    }

    /** Whether one of a post and those above it in its thread is removed. */
    private boolean isDown(Post post) {
        for (Post at = post; at != null; at = at.parent) {
            if (harmOn(at) == REMOVE) {
                return true;
            }
        }
        return false;
    }

    private int newFamily() {
        families++;
        return families;
    }

    private int publish(int account, int marks, int family, Post parent) {
        Post published = new Post(posts.size(), account, parent);
        published.write(marks, day, family);
        posts.add(published);
        letClassifiersReport(published);
        return published.number;
    }

    private void letClassifiersReport(Post post) {
        for (int i = 0; i < rules.size(); i++) {
            Rule rule = rules.get(i);
            Classifier classifier = rule.classifier;
            if (classifier != null && rule.versionFor(post.day) != null
                    && classifier.rate(post.marks) >= classifier.threshold) {
                post.file(new Report(-1, classifier, rule, day));
            }
        }
    }

    private boolean areAlike(Post one, Post other) {
        return one.family != other.family && Integer.bitCount(one.marks ^ other.marks) <= likeness;
    }

    // Persons.

    private boolean isOut(int person) {
        return countStrikes(person) >= STRIKES_OF_BAN;
    }

    private int countStrikes(int person) {
        int count = 0;
        for (int i = 0; i < posts.size(); i++) {
            Post post = posts.get(i);
            for (int j = 0; j < decisions.size() && people.lowest[post.account] == person; j++) {
                count += decisions.get(j).strikesOn(post, day);
            }
        }
        return count;
    }

    private boolean hasReported(int person, Post post, Rule rule) {
        for (Report report = post.firstReport; report != null; report = report.next) {
            if (report.classifier == null && report.rule == rule && people.lowest[report.account] == person) {
                return true;
            }
        }
        return false;
    }

    private boolean actsOnPerson(Decision decision, int person) {
        for (int i = 0; i < posts.size(); i++) {
            Post post = posts.get(i);
            if (people.lowest[post.account] == person && decision.actsOn(post)) {
                return true;
            }
        }
        return false;
    }

    // Reports and rankings.

    /** One bit for whoever reports: a person by its lowest account, a classifier behind all of them. */
    private int bitOf(Report report) {
        if (report.classifier == null) {
            return 1 << people.lowest[report.account];
        }
        return 1 << (MAX_ACCOUNTS + report.rule.number);
    }

    private int weightOf(Report report) {
        return report.classifier == null ? people.weights[people.lowest[report.account]] : report.classifier.weight;
    }

    private void addWeight(Report report, int more) {
        int sum = Math.max(LEAST_WEIGHT, Math.min(MOST_WEIGHT, weightOf(report) + more));
        if (report.classifier == null) {
            people.weights[people.lowest[report.account]] = sum;
        } else {
            report.classifier.weight = sum;
        }
    }

    private int pressureOn(Post post) {
        int sum = 0;
        int counted = 0;
        for (Report report = post.firstReport; report != null; report = report.next) {
            int bit = bitOf(report);
            if (report.doneBy == null && (counted & bit) == 0) {
                counted |= bit;
                sum += weightOf(report);
            }
        }
        return sum;
    }

    private void rankQueue(Moderator onlyFor) {
        for (int i = 0; i < posts.size(); i++) {
            Post post = posts.get(i);
            keys[i] = UNLISTED;
            if (post.isReported() && (onlyFor == null || mayLook(onlyFor, post))) {
                keys[i] = post.harmReported() * HARM_STEP + pressureOn(post);
            }
        }
    }

    private void rankFeed(int land) {
        for (int i = 0; i < posts.size(); i++) {
            Post post = posts.get(i);
            keys[i] = post.isWithheld(land) || isDown(post) ? UNLISTED : heatOf(post);
        }
    }

    private int countListed() {
        int count = 0;
        for (int i = 0; i < posts.size(); i++) {
            if (keys[i] != UNLISTED) {
                count++;
            }
        }
        return count;
    }

    /** The post at a place by falling keys, then by rising numbers; -1 if there is no such place. */
    private int listedAt(int place) {
        for (int i = 0; i < posts.size(); i++) {
            if (keys[i] != UNLISTED && countAhead(i) == place) {
                return i;
            }
        }
        return -1;
    }

    private int countAhead(int post) {
        int count = 0;
        for (int i = 0; i < posts.size(); i++) {
            if (keys[i] > keys[post] || keys[i] == keys[post] && i < post) {
                count++;
            }
        }
        return count;
    }

    private long heatOf(Post post) {
        long warm = post.seenThisWeek();
        if (harmOn(post) == NARROW) {
            warm /= 2;
        }
        return warm + post.owed - pressureOn(post);
    }

    // Decisions and appeals.

    private boolean mayLook(Moderator moderator, Post post) {
        return (post.marks & ~moderator.sees) == 0 && countToday(moderator) < moderator.limit;
    }

    private int countToday(Moderator moderator) {
        int count = 0;
        for (int i = 0; i < decisions.size(); i++) {
            Decision decision = decisions.get(i);
            if (decision.moderator == moderator && decision.day == day) {
                count++;
            }
        }
        return count;
    }

    private boolean isPrecedentAgainst(Rule rule, int marks) {
        for (int i = 0; i < decisions.size(); i++) {
            Decision decision = decisions.get(i);
            if (decision.fate == OVERTURNED && decision.rule == rule && decision.marks == marks) {
                return true;
            }
        }
        return false;
    }

    private void finishReports(Decision decision) {
        for (Report report = decision.post.firstReport; report != null; report = report.next) {
            if (report.doneBy == null) {
                decision.waited = Math.max(decision.waited, day - report.day);
                report.doneBy = decision;
                addWeight(report, report.rule == decision.rule ? GAIN_OF_RIGHT_REPORT : -LOSS_OF_WRONG_REPORT);
            }
        }
    }

    private int countReached(Decision decision) {
        int count = 0;
        for (int i = 0; i < posts.size(); i++) {
            if (decision.actsOn(posts.get(i))) {
                count++;
            }
        }
        return count;
    }

    private void lose(Post post, int people) {
        post.lost += people;
        for (int i = 0; i < decisions.size(); i++) {
            Decision decision = decisions.get(i);
            if (decision.harmOn(post) >= NARROW) {
                decision.lostBy[post.number] += people;
            }
        }
    }

    private void end(Decision decision, char fate) {
        decision.fate = fate;
        for (int i = 0; i < posts.size(); i++) {
            Post post = posts.get(i);
            post.owed += decision.lostBy[post.number];
        }
    }

    private void settle(Decision decision, boolean isOverturned) {
        decision.appealed = APPEAL_CLOSED;
        if (isOverturned) {
            end(decision, OVERTURNED);
            punishReporters(decision);
        }
    }

    private void punishReporters(Decision decision) {
        int punished = 0;
        for (Report report = decision.post.firstReport; report != null; report = report.next) {
            int bit = bitOf(report);
            if (report.doneBy == decision && report.rule == decision.rule && (punished & bit) == 0) {
                punished |= bit;
                addWeight(report, -LOSS_OF_OVERTURNED_REPORT);
            }
        }
    }

    private int listDrawable(Decision decision) {
        int found = 0;
        for (int i = 0; i < people.count; i++) {
            if (people.lowest[i] == i && !isOut(i) && !actsOnPerson(decision, i)
                    && !hasReported(i, decision.post, decision.rule)) {
                drawable[found] = i;
                found++;
            }
        }
        return found;
    }

    private int[] drawJurors(int found) {
        int[] drawn = new int[JURORS];
        for (int i = 0; i < JURORS && found - i > 0; i++) {
            int left = found - i;
            lot = lot * LOT_FACTOR % LOT_MODULUS;
            int index = (int) (lot % left);
            drawn[i] = drawable[index];
            for (int j = index; j < left - 1; j++) {
                drawable[j] = drawable[j + 1];
            }
        }
        return drawn;
    }

    // Numbers by rule.

    private int countDecisions(Rule rule, char what) {
        int count = 0;
        for (int i = 0; i < decisions.size(); i++) {
            Decision decision = decisions.get(i);
            if (decision.rule == rule && (what == 'd' || decision.fate == what)) {
                count++;
            }
        }
        return count;
    }

    private int countDaysWaited(Rule rule) {
        int sum = 0;
        for (int i = 0; i < decisions.size(); i++) {
            Decision decision = decisions.get(i);
            if (decision.rule == rule) {
                sum += decision.waited;
            }
        }
        return sum;
    }

    private int countActedOn(Rule rule) {
        int count = 0;
        for (int i = 0; i < posts.size(); i++) {
            if (isActedOn(posts.get(i), rule)) {
                count++;
            }
        }
        return count;
    }

    private boolean isActedOn(Post post, Rule rule) {
        for (int i = 0; i < decisions.size(); i++) {
            Decision decision = decisions.get(i);
            if (decision.rule == rule && decision.actsOn(post)) {
                return true;
            }
        }
        return false;
    }

    private int countReports(Rule rule, char what) {
        int count = 0;
        for (int i = 0; i < posts.size(); i++) {
            for (Report report = posts.get(i).firstReport; report != null; report = report.next) {
                if (report.rule == rule && (what == 'r' || what == 'w' && report.doneBy == null
                        || what == 'm' && report.classifier != null)) {
                    count++;
                }
            }
        }
        return count;
    }

    // Soundness: judged from what was written down as each decision was made, not from what is told of the post.

    private int judgeAlone(Post post) {
        int worst = NO_HARM;
        for (int i = 0; i < decisions.size(); i++) {
            Decision decision = decisions.get(i);
            boolean isMeant = decision.family == post.family || (decision.spreadTo >> post.number & 1L) != 0L;
            if (isMeant && decision.fate == STANDS && decision.rule != null) {
                worst = Math.max(worst, decision.rule.harmFor(post.day));
            }
        }
        return worst;
    }

    private boolean isSpared(Post post) {
        for (int i = 0; i < decisions.size(); i++) {
            Decision decision = decisions.get(i);
            if (decision.rule != null && decision.isStanding() && decision.post.family == post.family
                    && decision.rule.versionFor(post.day) != null && !isActedOn(post, decision.rule)) {
                return true;
            }
        }
        return false;
    }

    /** Accounts, and which of them are one person; a person goes by its lowest account. */
    private static final class People {
        private final int[] lowest = new int[MAX_ACCOUNTS];
        private final int[] weights = new int[MAX_ACCOUNTS];
        private int count = 0;

        private int add() {
            int account = count;
            lowest[account] = account;
            weights[account] = FIRST_WEIGHT;
            count++;
            return account;
        }

        private int unite(int person, int other) {
            int kept = Math.min(person, other);
            weights[kept] = Math.min(weights[person], weights[other]);
            int accounts = 0;
            for (int i = 0; i < count; i++) {
                if (lowest[i] == person || lowest[i] == other) {
                    lowest[i] = kept;
                    accounts++;
                }
            }
            return accounts;
        }
    }

    /** A post, with its reports in the order in which they came and its views by days. */
    private static final class Post {
        private final int number;
        private final int account;
        private final Post parent;
        private int marks;
        private int day;
        private int family;
        private int withheldIn = 0;
        private long seen = 0L;
        private long lost = 0L;
        private long owed = 0L;
        private final int[] seenByDay = new int[WEEK];
        private Report firstReport = null;
        private Report lastReport = null;

        private Post(int number, int account, Post parent) {
            this.number = number;
            this.account = account;
            this.parent = parent;
        }

        private void write(int newMarks, int today, int newFamily) {
            marks = newMarks;
            day = today;
            family = newFamily;
        }

        private void file(Report report) {
            if (lastReport == null) {
                firstReport = report;
            } else {
                lastReport.next = report;
            }
            lastReport = report;
        }

        private boolean isReported() {
            for (Report report = firstReport; report != null; report = report.next) {
                if (report.doneBy == null) {
                    return true;
                }
            }
            return false;
        }

        private int harmReported() {
            int worst = NO_HARM;
            for (Report report = firstReport; report != null; report = report.next) {
                if (report.doneBy == null) {
                    worst = Math.max(worst, report.rule.harmFor(day));
                }
            }
            return worst;
        }

        private void withhold(int land) {
            withheldIn |= 1 << land;
        }

        private boolean isWithheld(int land) {
            return (withheldIn >> land & 1) != 0;
        }

        private void count(int today, int people) {
            seen += people;
            seenByDay[Math.floorMod(today, WEEK)] += people;
            owed -= Math.min(owed, people);
        }

        /** Empties the places of the days that begin, which hold days that are a week old by then. */
        private void forgetViews(int today, int days) {
            for (int i = 1; i <= days && i <= WEEK; i++) {
                seenByDay[Math.floorMod(today + i, WEEK)] = 0;
            }
        }

        private long seenThisWeek() {
            long sum = 0L;
            for (int i = 0; i < WEEK; i++) {
                sum += seenByDay[i];
            }
            return sum;
        }
    }

    /** A report by an account, or by a classifier; it waits until a decision has done it. */
    private static final class Report {
        private final int account;
        private final Classifier classifier;
        private final Rule rule;
        private final int day;
        private Decision doneBy = null;
        private Report next = null;

        private Report(int account, Classifier classifier, Rule rule, int day) {
            this.account = account;
            this.classifier = classifier;
            this.rule = rule;
            this.day = day;
        }
    }

    /** A rule by its versions and regimes, each a chain from the newest one on. */
    private static final class Rule {
        private final int number;
        private Version newest = null;
        private int versions = 0;
        private Regime regimes = null;
        private Classifier classifier = null;

        private Rule(int number) {
            this.number = number;
        }

        private void give(int today, int needs, int excepts, int harm, int strikes) {
            Version older = newest;
            if (older != null && older.from == today) {
                older = older.older;
            } else {
                versions++;
            }
            newest = new Version(today, needs, excepts, harm, strikes, older);
        }

        /** The version that binds what was posted on a day; null if the rule does not bind it. */
        private Version versionFor(int posted) {
            for (Version version = newest; version != null; version = version.older) {
                if (version.from <= posted) {
                    return version;
                }
            }
            return null;
        }

        private int harmFor(int posted) {
            Version version = versionFor(posted);
            if (version == null) {
                return NO_HARM;
            }
            int worst = version.harm;
            for (Regime regime = regimes; regime != null; regime = regime.older) {
                if (regime.from <= posted && posted <= regime.till) {
                    worst = Math.max(worst, regime.harm);
                }
            }
            return worst;
        }

        private boolean isBrokenBy(Post post) {
            Version version = versionFor(post.day);
            return version != null && version.isBrokenBy(post.marks);
        }
    }

    private static final class Version {
        private final int from;
        private final int needs;
        private final int excepts;
        private final int harm;
        private final int strikes;
        private final Version older;

        private Version(int from, int needs, int excepts, int harm, int strikes, Version older) {
            this.from = from;
            this.needs = needs;
            this.excepts = excepts;
            this.harm = harm;
            this.strikes = strikes;
            this.older = older;
        }

        private boolean isBrokenBy(int marks) {
            return (marks & needs) == needs && (marks & excepts) == 0;
        }
    }

    private static final class Regime {
        private final int harm;
        private final int from;
        private final int till;
        private final Regime older;

        private Regime(int harm, int from, int till, Regime older) {
            this.harm = harm;
            this.from = from;
            this.till = till;
            this.older = older;
        }
    }

    private static final class Classifier {
        private final int[] scores = new int[MARKS];
        private int threshold = MOST_THRESHOLD;
        private int weight = FIRST_WEIGHT;

        private int rate(int marks) {
            int sum = 0;
            for (int i = 0; i < MARKS; i++) {
                if ((marks >> i & 1) != 0) {
                    sum += scores[i];
                }
            }
            return sum;
        }
    }

    private static final class Moderator {
        private final int sees;
        private final int limit;

        private Moderator(int sees, int limit) {
            this.sees = sees;
            this.limit = limit;
        }
    }

    /** A decision with the family and marks that its post had then; its rule is null if it is by none. */
    private static final class Decision {
        private final Moderator moderator;
        private final Post post;
        private final Rule rule;
        private final int day;
        private final int marks;
        private final int family;
        private char fate;
        private int waited = 0;
        private int appealed = NOT_APPEALED;
        private int[] jurors = null;
        private final int[] votes = new int[JURORS];
        private boolean isSpread = false;
        private int spreadDay = 0;
        /** One bit for each post that it acts on by being spread. */
        private long spreadTo = 0L;
        private final long[] lostBy = new long[MAX_POSTS];

        private Decision(Moderator moderator, Post post, Rule rule, int day) {
            this.moderator = moderator;
            this.post = post;
            this.rule = rule;
            this.day = day;
            this.marks = post.marks;
            this.family = post.family;
            this.fate = rule == null ? BY_NO_RULE : STANDS;
        }

        private boolean isStanding() {
            return fate == STANDS;
        }

        private boolean isSpreadTo(Post other) {
            return (spreadTo >> other.number & 1L) != 0L;
        }

        private boolean isMeantFor(Post other) {
            return isStanding() && (other.family == family || isSpreadTo(other));
        }

        private boolean actsOn(Post other) {
            return rule != null && isMeantFor(other) && rule.versionFor(other.day) != null;
        }

        private int harmOn(Post other) {
            return rule != null && isMeantFor(other) ? rule.harmFor(other.day) : NO_HARM;
        }

        private int strikesOn(Post other, int today) {
            Version version = rule != null && isMeantFor(other) ? rule.versionFor(other.day) : null;
            if (version == null) {
                return 0;
            }
            int from = isSpreadTo(other) ? spreadDay : Math.max(day, other.day);
            return today - from < DAYS_OF_STRIKE ? version.strikes : 0;
        }

        private int countVotes(int choice) {
            int count = 0;
            for (int i = 0; i < JURORS; i++) {
                if (votes[i] == choice) {
                    count++;
                }
            }
            return count;
        }
    }

    private static final class Order {
        private final int land;
        private final Post post;
        private final int until;
        private boolean isObeyed = false;

        private Order(int land, Post post, int until) {
            this.land = land;
            this.post = post;
            this.until = until;
        }
    }
}

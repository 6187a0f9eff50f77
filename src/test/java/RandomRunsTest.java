import java.lang.reflect.InvocationTargetException;
import java.lang.reflect.Method;
import java.util.ArrayList;
import java.util.Arrays;
import java.util.Comparator;
import java.util.List;
import java.util.Random;

/**
 * Runs of 512 calls by seeds, each call also put to the Model: answers and exceptions must be the same. Then each run is
 * gone through again up to some call, and what is told by the calls that only look must be the same there.
 */
final class RandomRunsTest {
    private static final int CALLS = 512;
    private static final int RUNS = 300;
    private static final int PLACES = 7;
    private static final List<String> RARE = List.of("join", "change", "regime", "addModerator",
            "addBuyer", "takeBack", "addAccount", "addRule", "setLikeness");
    private static final List<String> OFTEN = List.of("report", "decide", "view", "appeal", "edit",
            "vote");
    private static final List<String> LOOKS = List.of("weight", "stateOf", "breaks", "pressure", "queued", "queueAt",
            "next", "stands", "reach", "strikes", "isBanned", "jurorAt", "late", "lost", "isHidden", "score",
            "machineWeight", "alike", "beside", "seen", "owed", "heat", "feedSize", "feedAt", "numberOf",
            "standShare", "meanWeight", "isSound");

    private record Step(Method method, Object[] arguments) {
    }

    private final Random random;
    private ModHouse house = new ModHouse();
    private Model model = new Model();
    private final List<Step> steps = new ArrayList<>();
    private final List<Method> changes = new ArrayList<>();
    private final List<Method> looks = new ArrayList<>();
    private final int markRange;
    private int accounts = 0;

    private RandomRunsTest(long seed) {
        random = new Random(seed);
        markRange = seed % 3 == 0 ? 4 : seed % 3 == 1 ? 16 : 256;
        Method[] face = ModHouse.class.getDeclaredMethods();
        Arrays.sort(face, Comparator.comparing(Method::getName));
        for (Method method : face) {
            if (!java.lang.reflect.Modifier.isPublic(method.getModifiers())) {
                continue;
            }
            if (LOOKS.contains(method.getName())) {
                looks.add(method);
                continue;
            }
            int times = RARE.contains(method.getName()) ? 1 : OFTEN.contains(method.getName()) ? 9 : 3;
            for (int i = 0; i < times; i++) {
                changes.add(method);
            }
        }
    }

    static void run(Check c) {
        for (long seed = 0; seed < RUNS; seed++) {
            String difference = new RandomRunsTest(seed).play();
            c.is("run by seed " + seed, difference, "the same");
        }
    }

    private String play() {
        accounts = 3 + random.nextInt(10);
        begin();
        for (int i = accounts + 4; i < CALLS; i++) {
            Step step = step(pick());
            steps.add(step);
            String difference = put(step);
            if (difference != null) {
                return "call " + i + ": " + difference;
            }
        }
        for (int i = 1; i <= PLACES; i++) {
            int calls = steps.size() * i / (PLACES + 1);
            String difference = lookBehind(calls);
            if (difference != null) {
                return "behind call " + (accounts + 4 + calls) + ": " + difference;
            }
        }
        return "the same";
    }

    private void begin() {
        house = new ModHouse();
        model = new Model();
        for (int i = 0; i < accounts; i++) {
            house.addAccount();
            model.addAccount();
        }
        for (int i = 0; i < 2; i++) {
            house.addModerator(255, 9);
            model.addModerator(255, 9);
            house.addRule(1 + i, 0, 'n', i);
            model.addRule(1 + i, 0, 'n', i);
        }
    }

    /** Goes through the run again up to some call, and looks with all calls that are left. */
    private String lookBehind(int calls) {
        begin();
        for (int i = 0; i < calls; i++) {
            put(steps.get(i));
        }
        for (int i = accounts + 4 + calls; i < CALLS; i++) {
            String difference = put(step(looks.get(i % looks.size())));
            if (difference != null) {
                return difference;
            }
        }
        return null;
    }

    private Step step(Method method) {
        return new Step(method, arguments(method));
    }

    /** Puts a call to both and tells how they differ; null if they answer the same. */
    private String put(Step step) {
        String got = call(house, step.method, step.arguments);
        String due = call(model, step.method, step.arguments);
        return got.equals(due) ? null : step.method.getName() + Arrays.toString(step.arguments) + " answered " + got
                + ", the model " + due;
    }

    private Method pick() {
        return random.nextInt(4) == 0 ? looks.get(random.nextInt(looks.size()))
                : changes.get(random.nextInt(changes.size()));
    }

    private static String call(Object on, Method method, Object[] arguments) {
        try {
            Method same = on.getClass().getMethod(method.getName(), method.getParameterTypes());
            return String.valueOf(same.invoke(on, arguments));
        } catch (InvocationTargetException e) {
            return "throws " + Check.nameOf(e.getCause());
        } catch (ReflectiveOperationException e) {
            return "has no such call: " + e;
        }
    }

    private Object[] arguments(Method method) {
        Object[] values = new Object[method.getParameterCount()];
        for (int i = 0; i < values.length; i++) {
            Class<?> type = method.getParameterTypes()[i];
            if (type == boolean.class) {
                values[i] = random.nextInt(3) > 0;
            } else if (type == char.class) {
                String letters = method.getName().equals("numberOf") ? "dsobarwmtx" : "lnrlnrlnrx";
                values[i] = letters.charAt(random.nextInt(letters.length()));
            } else {
                values[i] = number(method.getName(), method.getParameters()[i].getName());
            }
        }
        return values;
    }

    private int number(String method, String parameter) {
        if (random.nextInt(60) == 0) {
            int[] wild = {-1, random.nextInt(300), Integer.MIN_VALUE, Integer.MAX_VALUE};
            return wild[random.nextInt(wild.length)];
        }
        switch (parameter) {
            case "account":
            case "other":
                return random.nextInt(accounts);
            case "post":
                return post(method);
            case "rule":
                return random.nextInt(3) - (method.equals("decide") ? random.nextInt(2) : 0);
            case "decision":
                return decision(method);
            case "order":
                return random.nextInt(1 + model.orders.size());
            case "index":
                return random.nextInt(3);
            case "moderator":
                return random.nextInt(2);
            case "needs":
                return 1 << random.nextInt(3);
            case "excepts":
                return random.nextInt(3) == 0 ? 1 << random.nextInt(8) : 0;
            case "strikes":
                return random.nextInt(8) == 0 ? 3 : random.nextInt(2);
            case "marks":
                return method.equals("setLikeness") ? random.nextInt(4) : random.nextInt(markRange);
            case "sees":
                return 255 - random.nextInt(4);
            case "avoids":
                return random.nextInt(8);
            case "limit":
                return 1 + random.nextInt(9);
            case "land":
                return random.nextInt(3);
            case "people":
                return 1 + random.nextInt(random.nextInt(5) == 0 ? 100000 : 30);
            case "days":
                return method.equals("pass") ? 1 + random.nextInt(random.nextInt(4) == 0 ? 60 : 5)
                        : random.nextInt(31);
            case "from":
                return random.nextInt(100);
            case "till":
                return random.nextInt(400);
            case "mark":
                return random.nextInt(8);
            case "score":
                return random.nextInt(19) - 9;
            case "threshold":
                return random.nextInt(20) - 2;
            default:
                return random.nextInt(5);
        }
    }

    private int post(String method) {
        List<Integer> queue = model.queue();
        if (method.equals("decide") && !queue.isEmpty() && random.nextInt(8) > 0) {
            return queue.get(random.nextInt(queue.size()));
        }
        return random.nextInt(Math.max(1, model.posts.size()));
    }

    /** Mostly a decision for which the call means something. */
    private int decision(String method) {
        List<Integer> fitting = new ArrayList<>();
        for (int i = 0; i < model.decisions.size(); i++) {
            if (random.nextInt(10) == 0 || fits(method, model.decisions.get(i))) {
                fitting.add(i);
            }
        }
        return fitting.isEmpty() ? 0 : fitting.get(random.nextInt(fitting.size()));
    }

    private static boolean fits(String method, Model.Decision decision) {
        switch (method) {
            case "appeal":
                return decision.stands && !decision.appealed;
            case "hear":
            case "jury":
                return decision.waits && decision.jurors == null;
            case "vote":
                return decision.waits && decision.jurors != null;
            case "jurorAt":
                return decision.jurors != null;
            case "spread":
                return decision.stands && decision.spread == null;
            default:
                return true;
        }
    }
}

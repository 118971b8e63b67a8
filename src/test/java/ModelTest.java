import java.util.Random;

/**
 * All promises: runs of 512 calls with drawn arguments, the most that the document promises for an
 * object ("An object is used for at most 512 calls"), each answer held against the model's.
 */
public final class ModelTest {
    private static final int RUNS = 3000;
    private static final int[] WILD = {Integer.MIN_VALUE, Integer.MAX_VALUE, -2, -1, 1000, 10001, 33, 41};
    private static final Due DUE = new Due("ModelTest");

    /** How often each kind of call comes: of a run that grows, of one that changes much, of one that asks. */
    private static final int[][] WEIGHTS = {
        {6, 40, 6, 2, 12, 1, 1, 2, 2, 2, 1, 1, 1, 2, 3, 1, 1, 1, 4, 2, 6, 2},
        {20, 20, 12, 4, 20, 6, 4, 2, 2, 2, 1, 1, 1, 2, 2, 1, 1, 1, 4, 3, 8, 4},
        {8, 16, 6, 4, 6, 2, 2, 4, 6, 4, 4, 4, 4, 6, 6, 4, 4, 2, 12, 3, 8, 4},
        {1, 1, 2, 2, 60, 1, 4, 2, 2, 2, 1, 1, 1, 2, 2, 1, 1, 1, 2, 4, 8, 4},
    };

    private final Random random;
    private final Rows x = new Rows();
    private final Model model = new Model();
    private final int[] weights;
    private final int mostTopic;

    private ModelTest(int seed) {
        random = new Random(seed);
        weights = WEIGHTS[seed % WEIGHTS.length];
        mostTopic = seed % 3 == 0 ? 1000 : 6;
    }

    public static void main(String[] args) {
        for (int seed = 0; seed < RUNS; seed++) {
            ModelTest run = new ModelTest(seed);
            boolean same = true;
            while (same && run.x.calls() < Rows.MOST_CALLS) {
                same = run.oneCall("run " + seed + ", call " + (run.x.calls() + 1) + ": ");
            }
        }
        DUE.end();
    }

    /** Mostly a number from 0 up to below 'most', now and then any other. */
    private int draw(int most) {
        int kind = random.nextInt(40);
        if (kind == 0) {
            return WILD[random.nextInt(WILD.length)];
        }
        if (kind == 1) {
            return most;
        }
        return most <= 0 ? 0 : random.nextInt(most);
    }

    private int topic() {
        return draw(mostTopic);
    }

    private int topicOrNone() {
        return random.nextBoolean() ? -1 : topic();
    }

    private int block() {
        return draw(model.blocks.size());
    }

    private int eventOf(int block) {
        boolean there = block >= 0 && block < model.blocks.size();
        return draw(there ? model.blocks.get(block).events.size() : 3);
    }

    private int limit() {
        return random.nextInt(3) == 0 ? draw(10001) : draw(120);
    }

    private int kindOfCall() {
        int sum = 0;
        for (int weight : weights) {
            sum += weight;
        }
        int drawn = random.nextInt(sum);
        int kind = 0;
        while (drawn >= weights[kind]) {
            drawn -= weights[kind];
            kind++;
        }
        return kind;
    }

    private boolean oneCall(String where) {
        int block = block();
        int i = eventOf(block);
        int what = draw(7);
        boolean well = random.nextInt(4) != 0;
        int number = draw(random.nextInt(4) == 0 ? 9 : model.subscribers.size());
        long value = random.nextLong();
        int limit = limit();
        int topic = topic();
        switch (kindOfCall()) {
            case 0:
                return same(where + "begin " + limit, () -> x.begin(limit, well), () -> model.begin(limit, well));
            case 1:
                return tell(where, value);
            case 2:
                return same(where + "end " + well, () -> x.end(well), () -> model.end(well));
            case 3:
                return same(where + "told " + what, () -> x.told(what), () -> model.told(what));
            case 4:
                return same(where + "close", () -> x.close(), () -> model.close());
            case 5:
                int n = draw(random.nextInt(3) == 0 ? model.blocks.size() + 1 : 3);
                return same(where + "back " + n, () -> x.back(n), () -> model.back(n));
            case 6:
                return same(where + "prune " + block, () -> x.prune(block), () -> model.prune(block));
            case 7:
                int which = draw(2);
                return same(where + "size " + block, () -> x.size(block, which), () -> model.size(block, which));
            case 8:
                return same(where + "event " + block + " " + i + " " + what,
                        () -> x.event(block, i, what), () -> model.event(block, i, what));
            case 9:
                return same(where + "value " + block + " " + i, () -> x.value(block, i), () -> model.value(block, i));
            case 10:
                return same(where + "root " + block, () -> x.root(block), () -> model.root(block));
            case 11:
                return same(where + "filter " + block, () -> x.filter(block), () -> model.filter(block));
            case 12:
                return same(where + "may " + block + " " + topic,
                        () -> x.may(block, topic), () -> model.may(block, topic));
            case 13:
                return same(where + "find " + block + " " + topic + " " + i,
                        () -> x.find(block, topic, i), () -> model.find(block, topic, i));
            case 14:
                return same(where + "path " + block + " " + i, () -> x.path(block, i), () -> model.path(block, i));
            case 15:
                int k = draw(6);
                return same(where + "out " + k, () -> x.out(k), () -> model.out(k));
            case 16:
                return same(where + "lay", () -> x.lay(value), () -> model.lay(value));
            case 17:
                return same(where + "wipe", () -> x.wipe(), () -> model.wipe());
            case 18:
                return proved(where, block, i, well);
            case 19:
                int from = draw(model.blocks.size() + 1);
                int about = topicOrNone();
                return same(where + "subscribe " + about + " " + from,
                        () -> x.subscribe(about, from), () -> model.subscribe(about, from));
            case 20:
                return same(where + "next " + number, () -> x.next(number), () -> model.next(number));
            default:
                return same(where + "place " + number, () -> x.place(number), () -> model.place(number));
        }
    }

    private boolean tell(String where, long value) {
        int account = draw(10);
        int a = topic();
        int b = topicOrNone();
        int c = b == -1 && random.nextInt(20) != 0 ? -1 : topicOrNone();
        return same(where + "tell " + account + " " + a + " " + b + " " + c,
                () -> x.tell(account, a, b, c, value), () -> model.tell(account, a, b, c, value));
    }

    /** Mostly of an event as it was told and with its path, so that some are proved. */
    private boolean proved(String where, int block, int i, boolean withPath) {
        boolean there = block >= 0 && block < model.blocks.size()
                && i >= 0 && i < model.blocks.get(block).events.size();
        boolean roomForTwo = x.calls() + 2 <= Rows.MOST_CALLS;
        if (there && withPath && roomForTwo && !same(where + "path", () -> x.path(block, i), () -> model.path(block, i))) {
            return false;
        }
        Model.Event told = there ? model.blocks.get(block).events.get(i) : null;
        boolean asTold = told != null && random.nextInt(5) != 0;
        int account = asTold ? told.account() : draw(10);
        int a = asTold ? told.topic(0) : topic();
        int b = asTold ? told.topic(1) : topicOrNone();
        int c = asTold ? told.topic(2) : topicOrNone();
        long value = told != null && random.nextInt(8) != 0 ? told.value() : random.nextLong();
        return same(where + "proved " + block + " " + i + " " + account + " " + a + " " + b + " " + c,
                () -> x.proved(block, i, account, a, b, c, value),
                () -> model.proved(block, i, account, a, b, c, value));
    }

    private static boolean same(String call, Due.Call program, Due.Call model) {
        String got = Due.answerOf(program);
        String want = Due.answerOf(model);
        if (!got.equals(want)) {
            DUE.report(call + " answered " + got + ", due is " + want);
        }
        return got.equals(want);
    }
}

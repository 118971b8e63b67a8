/**
 * Events that calls tell, in blocks, with a filter, a tree of digests and subscribers.
 * The document (../shared/DOC.md) says what each call answers, as promises 1 to 23.
 */
public final class EventRows {
    public static final int BAD = -1, STATE = -2, FULL = -3, GONE = -4, NONE = -5;

    private static final int MOST_UNITS = 10000;
    private static final int MOST_CALLS = 8;
    private static final int MOST_EVENTS = 32;
    private static final int MOST_BLOCKS = 40;
    private static final int MOST_SUBSCRIBERS = 8;
    private static final int ACCOUNTS = 10;
    private static final int TOPICS = 1000;

    /** Where a topic may be left out; for a subscriber it means any topic. */
    private static final int NO_TOPIC = -1;

    private static final int UNITS_OF_CALL = 1;
    private static final int UNITS_OF_EVENT = 5;
    private static final int UNITS_OF_TOPIC = 2;

    /** Calls that failed are told as this less how many, so that no refusal looks like it. */
    private static final int FAILED = -20;

    /** A place is told as this times its block, and its number there. */
    private static final int BLOCK_STEP = 100;

    /** A row of 32 leaves is one digest after so many levels; no path is longer. */
    private static final int LEVELS = 5;

    private static final long MIX_FACTOR = 0x9E3779B97F4A7C15L;

    private final Calls calls = new Calls();
    private final Block[] blocks = new Block[MOST_BLOCKS];
    private final Tree tree = new Tree();
    private final Out outRow = new Out();
    private final Subscriber[] subscribers = new Subscriber[MOST_SUBSCRIBERS];
    private Block open = new Block();
    private int blockCount;
    private int subscriberCount;
    private int closedEvents;

    public EventRows() {
    }

    // ---- calls

    public int begin(int limit, boolean caught) {
        if (limit < 0 || limit > MOST_UNITS) {
            return BAD;
        }
        if (calls.depth >= MOST_CALLS) {
            return FULL;
        }
        if (calls.depth > 0 && !calls.pay(UNITS_OF_CALL)) {
            return failInnermost();
        }
        calls.push(limit, caught, open.count);
        return calls.depth;
    }

    public int tell(int account, int a, int b, int c, long value) {
        if (!isEvent(account, a, b, c)) {
            return BAD;
        }
        if (calls.depth == 0) {
            return STATE;
        }
        if (open.count >= MOST_EVENTS) {
            return FULL;
        }
        if (!calls.pay(UNITS_OF_EVENT + UNITS_OF_TOPIC * topicCount(b, c))) {
            return failInnermost();
        }
        open.add(account, a, b, c, value);
        return open.count;
    }

    public int end(boolean well) {
        if (calls.depth == 0) {
            return STATE;
        }
        return well ? calls.pop() : failInnermost();
    }

    public int told(int what) {
        switch (what) {
            case 0:
                return calls.depth;
            case 1:
                return calls.usedOfInnermost();
            case 2:
                return calls.leftOfInnermost();
            case 3:
                return open.count;
            case 4:
                return closedEvents + open.count;
            case 5:
                return blockCount;
            case 6:
                return subscriberCount;
            default:
                return BAD;
        }
    }

    // ---- blocks

    public int close() {
        if (calls.depth > 0) {
            return STATE;
        }
        if (blockCount >= MOST_BLOCKS) {
            return FULL;
        }
        open.seal(closedEvents, tree.topOf(open));
        closedEvents += open.count;
        // A block that was taken back left its rows here: they serve the new open one.
        Block spare = blocks[blockCount];
        blocks[blockCount] = open;
        open = spare == null ? new Block() : spare;
        open.clear();
        blockCount++;
        return blockCount - 1;
    }

    public int back(int n) {
        if (n < 0 || n > blockCount) {
            return BAD;
        }
        if (calls.depth > 0) {
            return STATE;
        }
        int left = blockCount - n;
        int gone = keptEventsFrom(left);
        blockCount = left;
        moveSubscribersBack();
        return gone;
    }

    public int prune(int block) {
        Block at = blockAt(block);
        if (at == null) {
            return BAD;
        }
        int pruned = at.kept ? 1 : 0;
        at.kept = false;
        return pruned;
    }

    public int size(int block, int what) {
        Block at = blockAt(block);
        if (at == null || what < 0 || what > 1) {
            return BAD;
        }
        if (what == 0) {
            return at.count;
        }
        return at.kept ? 1 : 0;
    }

    public int event(int block, int i, int what) {
        Block at = blockAt(block);
        if (at == null || !at.hasEvent(i) || what < 0 || what > 5) {
            return BAD;
        }
        return at.kept ? at.detail(i, what) : GONE;
    }

    public long value(int block, int i) throws NullPointerException, ArrayIndexOutOfBoundsException {
        Block at = neededBlock(block);
        if (!at.kept) {
            throw new NullPointerException("the events of this block are not kept");
        }
        if (!at.hasEvent(i)) {
            throw new ArrayIndexOutOfBoundsException("there is no such event");
        }
        return at.values[i];
    }

    public long root(int block) throws ArrayIndexOutOfBoundsException {
        return neededBlock(block).rootDigest;
    }

    public long filter(int block) throws ArrayIndexOutOfBoundsException {
        return neededBlock(block).filterBits;
    }

    public int may(int block, int topic) {
        Block at = blockAt(block);
        if (at == null || !isTopic(topic)) {
            return BAD;
        }
        long bits = bitsOf(topic);
        return (at.filterBits & bits) == bits ? 1 : 0;
    }

    public int find(int block, int topic, int i) {
        Block at = blockAt(block);
        if (at == null || !isTopic(topic) || i < 0) {
            return BAD;
        }
        return at.kept ? at.firstWith(topic, i) : GONE;
    }

    // ---- proofs

    public int path(int block, int i) {
        Block at = blockAt(block);
        if (at == null || !at.hasEvent(i)) {
            return BAD;
        }
        if (!at.kept) {
            return GONE;
        }
        tree.pathOf(at, i, outRow);
        return outRow.count;
    }

    public long out(int k) throws ArrayIndexOutOfBoundsException {
        if (k < 0 || k >= outRow.count) {
            throw new ArrayIndexOutOfBoundsException("out has not so many");
        }
        return outRow.digests[k];
    }

    public int lay(long v) {
        return outRow.add(v) ? outRow.count : FULL;
    }

    public int wipe() {
        int had = outRow.count;
        outRow.count = 0;
        return had;
    }

    public int proved(int block, int i, int account, int a, int b, int c, long value) {
        Block at = blockAt(block);
        if (at == null || !at.hasEvent(i) || !isEvent(account, a, b, c)) {
            return BAD;
        }
        long leaf = leafOf(account, a, b, c, value, i);
        return outRow.leadsTo(at.rootDigest, leaf, i, at.count) ? 1 : 0;
    }

    // ---- subscribers

    public int subscribe(int topic, int block) {
        if (!isTopicOrNone(topic) || block < 0 || block > blockCount) {
            return BAD;
        }
        if (subscriberCount >= MOST_SUBSCRIBERS) {
            return FULL;
        }
        subscribers[subscriberCount] = new Subscriber(topic, block);
        subscriberCount++;
        return subscriberCount - 1;
    }

    public int next(int subscriber) {
        Subscriber one = subscriberAt(subscriber);
        if (one == null) {
            return BAD;
        }
        int from = one.number;
        for (int number = one.block; number < blockCount; number++) {
            int found = firstKeptWith(number, one.topic, from);
            if (found >= 0) {
                one.moveTo(number, found + 1);
                return BLOCK_STEP * number + found;
            }
            from = 0;
        }
        one.moveTo(blockCount, 0);
        return NONE;
    }

    public int place(int subscriber) {
        Subscriber one = subscriberAt(subscriber);
        return one == null ? BAD : BLOCK_STEP * one.block + one.number;
    }

    // ---- what the calls above share

    private int failInnermost() {
        return FAILED - calls.fail(open);
    }

    /** The closed block of that number, or null where there is none. */
    private Block blockAt(int number) {
        return number >= 0 && number < blockCount ? blocks[number] : null;
    }

    private Block neededBlock(int number) {
        Block at = blockAt(number);
        if (at == null) {
            throw new ArrayIndexOutOfBoundsException("there is no such block");
        }
        return at;
    }

    private int keptEventsFrom(int first) {
        int kept = 0;
        for (int number = first; number < blockCount; number++) {
            Block at = blockAt(number);
            if (at != null && at.kept) {
                kept += at.count;
            }
        }
        return kept;
    }

    private int firstKeptWith(int number, int topic, int from) {
        Block at = blockAt(number);
        return at != null && at.kept ? at.firstWith(topic, from) : NONE;
    }

    /** The subscriber of that number, or null where there is none. */
    private Subscriber subscriberAt(int number) {
        return number >= 0 && number < subscriberCount ? subscribers[number] : null;
    }

    private void moveSubscribersBack() {
        for (int number = 0; number < subscriberCount; number++) {
            Subscriber one = subscriberAt(number);
            if (one != null && one.block >= blockCount) {
                one.moveTo(blockCount, 0);
            }
        }
    }

    private static boolean isTopic(int topic) {
        return topic >= 0 && topic < TOPICS;
    }

    private static boolean isTopicOrNone(int topic) {
        return topic == NO_TOPIC || isTopic(topic);
    }

    private static boolean isEvent(int account, int a, int b, int c) {
        return account >= 0 && account < ACCOUNTS && isTopic(a)
                && isTopicOrNone(b) && isTopicOrNone(c)
                && (b != NO_TOPIC || c == NO_TOPIC);
    }

    private static int topicCount(int b, int c) {
        if (b == NO_TOPIC) {
            return 1;
        }
        return c == NO_TOPIC ? 2 : 3;
    }

    private static long bitsOf(int topic) {
        return (1L << (topic % 64)) | (1L << ((7 * topic + 3) % 61)) | (1L << ((13 * topic + 5) % 59));
    }

    private static long mix(long a, long b) {
        long product = (31 * a + b + 7) * MIX_FACTOR;
        return product ^ (product >>> 29);
    }

    private static long leafOf(int account, int a, int b, int c, long value, int number) {
        long digest = mix(mix(account, value), a);
        if (b != NO_TOPIC) {
            digest = mix(digest, b);
        }
        if (c != NO_TOPIC) {
            digest = mix(digest, c);
        }
        return mix(digest, number);
    }

    /** The calls that are open, the innermost one last. */
    private static final class Calls {
        final int[] limits = new int[MOST_CALLS];
        final int[] used = new int[MOST_CALLS];
        final int[] eventsBefore = new int[MOST_CALLS];
        final boolean[] caught = new boolean[MOST_CALLS];
        int depth;

        int usedOfInnermost() {
            return depth == 0 ? 0 : used[depth - 1];
        }

        int leftOfInnermost() {
            return depth == 0 ? 0 : limits[depth - 1] - used[depth - 1];
        }

        /** Whether the innermost call has so many units left; if so, they are used. */
        boolean pay(int units) {
            if (depth == 0 || units > leftOfInnermost()) {
                return false;
            }
            used[depth - 1] += units;
            return true;
        }

        /** There must be room for one more. */
        void push(int limit, boolean isCaught, int events) {
            limits[depth] = depth == 0 ? limit : Math.min(limit, leftOfInnermost());
            used[depth] = 0;
            eventsBefore[depth] = events;
            caught[depth] = isCaught;
            depth++;
        }

        /** The innermost call, which must be there, ends: what it used. */
        int pop() {
            depth--;
            int units = used[depth];
            if (depth > 0) {
                used[depth - 1] += units;
            }
            return units;
        }

        /** The innermost call fails, and those around it up to the first that is caught: how many. */
        int fail(Block told) {
            int failed = 0;
            boolean goesOn = true;
            for (int inner = depth - 1; inner >= 0 && goesOn; inner--) {
                told.count = eventsBefore[inner];
                goesOn = !caught[inner];
                pop();
                failed++;
            }
            return failed;
        }
    }

    /** Events in order: number rows that are made once, and used again for a later block. */
    private static final class Block {
        final int[] accounts = new int[MOST_EVENTS];
        final int[] firstTopics = new int[MOST_EVENTS];
        final int[] secondTopics = new int[MOST_EVENTS];
        final int[] thirdTopics = new int[MOST_EVENTS];
        final long[] values = new long[MOST_EVENTS];
        int count;
        boolean kept = true;
        int firstSerial;
        long rootDigest;
        long filterBits;

        /** There must be room for one more. */
        void add(int account, int a, int b, int c, long value) {
            accounts[count] = account;
            firstTopics[count] = a;
            secondTopics[count] = b;
            thirdTopics[count] = c;
            values[count] = value;
            count++;
        }

        void clear() {
            count = 0;
            kept = true;
        }

        /** What stays when the events are not kept is worked out once, when the block is closed. */
        void seal(int serial, long root) {
            firstSerial = serial;
            rootDigest = root;
            filterBits = 0;
            for (int i = 0; i < count; i++) {
                filterBits |= topicBits(i);
            }
        }

        private long topicBits(int i) {
            long bits = bitsOf(firstTopics[i]);
            if (secondTopics[i] != NO_TOPIC) {
                bits |= bitsOf(secondTopics[i]);
            }
            if (thirdTopics[i] != NO_TOPIC) {
                bits |= bitsOf(thirdTopics[i]);
            }
            return bits;
        }

        boolean hasEvent(int i) {
            return i >= 0 && i < count;
        }

        int detail(int i, int what) {
            switch (what) {
                case 0:
                    return accounts[i];
                case 1:
                    return topicCount(secondTopics[i], thirdTopics[i]);
                case 2:
                    return firstTopics[i];
                case 3:
                    return topicOrNone(secondTopics[i]);
                case 4:
                    return topicOrNone(thirdTopics[i]);
                default:
                    return firstSerial + i;
            }
        }

        private static int topicOrNone(int topic) {
            return topic == NO_TOPIC ? NONE : topic;
        }

        /** The first event with a topic, or with any, at a number that is not negative or behind it. */
        int firstWith(int topic, int from) {
            for (int i = from; i < count; i++) {
                if (topic == NO_TOPIC || hasTopic(i, topic)) {
                    return i;
                }
            }
            return NONE;
        }

        private boolean hasTopic(int i, int topic) {
            return firstTopics[i] == topic || secondTopics[i] == topic || thirdTopics[i] == topic;
        }

        long leaf(int i) {
            return leafOf(accounts[i], firstTopics[i], secondTopics[i], thirdTopics[i], values[i], i);
        }
    }

    /** One row for the digests of a level, used again for every tree. */
    private static final class Tree {
        private final long[] row = new long[MOST_EVENTS];
        private int width;

        private void plant(Block block) {
            width = block.count;
            for (int i = 0; i < width; i++) {
                row[i] = block.leaf(i);
            }
        }

        /** A row of one digest, or of none, stays as it is: so all trees may rise equally often. */
        private void rise() {
            int pairs = width / 2;
            for (int i = 0; i < pairs; i++) {
                row[i] = mix(row[2 * i], row[2 * i + 1]);
            }
            if (width % 2 == 1) {
                row[pairs] = row[width - 1];
            }
            width = pairs + width % 2;
        }

        long topOf(Block block) {
            plant(block);
            for (int level = 0; level < LEVELS; level++) {
                rise();
            }
            return width == 0 ? 0 : row[0];
        }

        void pathOf(Block block, int i, Out to) {
            to.count = 0;
            plant(block);
            int number = i;
            for (int level = 0; level < LEVELS; level++) {
                int beside = number ^ 1;
                if (beside < width) {
                    to.add(row[beside]);
                }
                rise();
                number /= 2;
            }
        }
    }

    /** The digests of a path, from the leaf up. */
    private static final class Out {
        final long[] digests = new long[LEVELS];
        int count;

        boolean add(long digest) {
            if (count >= LEVELS) {
                return false;
            }
            digests[count] = digest;
            count++;
            return true;
        }

        /** Whether all digests, and no more, lead from a leaf at a number to the root over so many leaves. */
        boolean leadsTo(long root, long leaf, int i, int leaves) {
            long digest = leaf;
            int number = i;
            int width = leaves;
            int taken = 0;
            for (int level = 0; level < LEVELS; level++) {
                if ((number ^ 1) < width) {
                    if (taken >= count) {
                        return false;
                    }
                    long beside = digests[taken];
                    digest = number % 2 == 0 ? mix(digest, beside) : mix(beside, digest);
                    taken++;
                }
                number /= 2;
                width = width / 2 + width % 2;
            }
            return taken == count && digest == root;
        }
    }

    private static final class Subscriber {
        final int topic;
        int block;
        int number;

        Subscriber(int topic, int block) {
            this.topic = topic;
            this.block = block;
        }

        void moveTo(int toBlock, int toNumber) {
            block = toBlock;
            number = toNumber;
        }
    }
}

/** Promises 6 to 15, sentence by sentence: close, back, prune, size, event, value, root, filter, may, find. */
public final class BlocksTest {
    private static final int BAD = -1, STATE = -2, FULL = -3, GONE = -4, NONE = -5;
    private static final int MIN = Integer.MIN_VALUE, MAX = Integer.MAX_VALUE;
    private static final Class<NullPointerException> NULL = NullPointerException.class;
    private static final Class<ArrayIndexOutOfBoundsException> INDEX = ArrayIndexOutOfBoundsException.class;

    /** No blocks where there are four, 0 to 3. */
    private static final int[] NO_BLOCKS = {-1, 4, 39, 40, 41, MIN, MAX};
    private static final Due DUE = new Due("BlocksTest");

    public static void main(String[] args) {
        closeTellsTheNumber();
        closeOfAnEmptyOne();
        closeLeavesAnEmptyOpenBlock();
        closeNeedsNoCall();
        closeIsFull();
        backTakesTheLast();
        backTakesNoneOrAll();
        backRefusesOtherNumbers();
        backTellsHowManyKeptEventsWent();
        backNeedsNoCall();
        backLeavesTheOpenBlock();
        backLeavesNothingBehind();
        pruneOnceAndAgain();
        pruneRefuses();
        prunedOnesServeNewBlocksWithoutATrace();
        sizeHasOrHad();
        sizeWhetherKept();
        sizeRefuses();
        eventDetails();
        eventNotSoManyTopics();
        eventRefuses();
        eventIsGone();
        valueOfEvents();
        valueNotKept();
        valueNoneSuch();
        valueFirstOfAllTheBlock();
        rootOfBlocks();
        rootRefuses();
        filterOfBlocks();
        filterRefuses();
        mayWantsAllBits();
        mayNeverMisses();
        mayTakesTopics();
        mayRefuses();
        findFromANumberOn();
        findAtTheEdgesOfFrom();
        findNone();
        findRefuses();
        findIsGone();
        DUE.end();
    }

    // ---- promise 6

    private static void closeTellsTheNumber() {
        DUE.sentence("promise 6", "THE OPEN BLOCK is closed (an empty one, too): its number");
        Rows x = new Rows();
        for (int block = 0; block < 8; block++) {
            DUE.is("close()", Sample.closeMany(x, 4 * block), block);
            DUE.is("size(" + block + ", 0)", x.size(block, 0), 4 * block);
        }
        DUE.is("back(3)", x.back(3), 20 + 24 + 28);
        DUE.is("close(), the number is free again", x.close(), 5);
    }

    private static void closeOfAnEmptyOne() {
        DUE.sentence("promise 6", "(an empty one, too)");
        Rows x = new Rows();
        DUE.is("close() of a new object", x.close(), 0);
        DUE.is("size(0, 0)", x.size(0, 0), 0);
        DUE.is("size(0, 1)", x.size(0, 1), 1);
        x.begin(10, false);
        Sample.tell(x, 0);
        x.end(false);
        DUE.is("close(), all events failed", x.close(), 1);
        DUE.is("size(1, 0)", x.size(1, 0), 0);
        DUE.is("told(5)", x.told(5), 2);
    }

    private static void closeLeavesAnEmptyOpenBlock() {
        DUE.sentence("promise 6", "THE OPEN BLOCK is closed");
        Rows x = new Rows();
        Sample.closeMany(x, 32);
        DUE.is("told(3)", x.told(3), 0);
        Sample.closeMany(x, 32);
        DUE.is("size(1, 0), a full one again", x.size(1, 0), 32);
        x.close();
        DUE.is("size(2, 0)", x.size(2, 0), 0);
    }

    private static void closeNeedsNoCall() {
        DUE.sentence("promise 6", "STATE: a CALL is open");
        DUE.refuses(States::inCalls, "close() in three calls", STATE, Rows::close);
        DUE.refuses(States::eightCalls, "close() in eight calls", STATE, Rows::close);
        DUE.refuses(States::fullOpenBlock, "close() of a full one in a call", STATE, Rows::close);
        DUE.refuses(x -> x.begin(0, false), "close() of an empty one in a call", STATE, Rows::close);
    }

    private static void closeIsFull() {
        DUE.sentence("promise 6 with Terms, BLOCKS", "BLOCKS 0, 1, .. (40 at once)");
        DUE.refuses(States::fortyBlocks, "close(), 40 are there", FULL, Rows::close);
        Rows x = new Rows();
        States.fortyBlocks(x);
        x.prune(0);
        DUE.is("close(), a pruned one counts", x.close(), FULL);
        x.back(1);
        DUE.is("close(), 39 are there", x.close(), 39);
        DUE.is("size(39, 0), the open block had stayed", x.size(39, 0), 3);
    }

    // ---- promise 7

    /** Blocks 0 to 4 with as many events; block 3 is pruned. */
    private static Rows fiveBlocks() {
        Rows x = new Rows();
        for (int block = 0; block < 5; block++) {
            Sample.closeMany(x, block);
        }
        x.prune(3);
        return x;
    }

    private static void backTakesTheLast() {
        DUE.sentence("promise 7", "The last n BLOCKS are taken back");
        for (int n = 0; n <= 5; n++) {
            Rows x = fiveBlocks();
            x.back(n);
            DUE.is("told(5) behind back(" + n + ")", x.told(5), 5 - n);
            for (int block = 0; block < 5; block++) {
                DUE.is("size(" + block + ", 0) behind back(" + n + ")", x.size(block, 0), block < 5 - n ? block : BAD);
            }
            DUE.is("close()", x.close(), 5 - n);
        }
    }

    private static void backTakesNoneOrAll() {
        DUE.sentence("promise 7", "The last n BLOCKS are taken back: how many EVENTS went");
        Rows x = fiveBlocks();
        DUE.is("back(0)", x.back(0), 0);
        DUE.is("told(5)", x.told(5), 5);
        DUE.is("back(5)", x.back(5), 7);
        DUE.is("told(5)", x.told(5), 0);
        DUE.is("back(0), none is there", x.back(0), 0);
        DUE.is("back(1), none is there", x.back(1), BAD);
        Rows y = new Rows();
        States.fortyBlocks(y);
        DUE.is("back(41)", y.back(41), BAD);
        DUE.is("back(40)", y.back(40), 3);
        DUE.is("told(5)", y.told(5), 0);
    }

    private static void backRefusesOtherNumbers() {
        DUE.sentence("promise 7", "The last n BLOCKS are taken back: how many EVENTS went (of those KEPT). BAD");
        for (int n : new int[] {-1, 5, 40, 41, MIN, MAX}) {
            DUE.refuses(States::rich, "back(" + n + "), 4 are there", BAD, x -> x.back(n));
        }
        for (int n : new int[] {-1, 1, MIN, MAX}) {
            DUE.refuses(States::fresh, "back(" + n + "), none is there", BAD, x -> x.back(n));
        }
        for (int n : new int[] {-1, 41, MIN, MAX}) {
            DUE.refuses(States::fortyBlocks, "back(" + n + "), 40 are there", BAD, x -> x.back(n));
        }
    }

    private static void backTellsHowManyKeptEventsWent() {
        DUE.sentence("promise 7", "how many EVENTS went (of those KEPT)");
        int[] due = {0, 4, 4, 6, 7, 7};
        for (int n = 0; n <= 5; n++) {
            DUE.is("back(" + n + "), block 3 is pruned", fiveBlocks().back(n), due[n]);
        }
        Rows x = fiveBlocks();
        for (int block = 0; block < 5; block++) {
            x.prune(block);
        }
        DUE.is("back(5), none is kept", x.back(5), 0);
        Rows y = new Rows();
        for (int block = 0; block < 12; block++) {
            Sample.closeMany(y, 32);
        }
        Sample.tellMany(y, 2);
        DUE.is("back(12) of full ones, the open one does not count", y.back(12), 384);
    }

    private static void backNeedsNoCall() {
        DUE.sentence("promise 7", "STATE: a CALL is open.");
        for (int n : new int[] {0, 1, 4}) {
            DUE.refuses(States::inCalls, "back(" + n + ") in calls", STATE, x -> x.back(n));
        }
        DUE.refuses(x -> x.begin(0, false), "back(0) of none in a call", STATE, x -> x.back(0));
    }

    private static void backLeavesTheOpenBlock() {
        DUE.sentence("promise 7", "(THE OPEN BLOCK stays.)");
        Rows x = new Rows();
        Sample.closeMany(x, 3);
        Sample.tellMany(x, 32);
        DUE.is("back(1)", x.back(1), 3);
        DUE.is("told(3)", x.told(3), 32);
        DUE.is("close()", x.close(), 0);
        for (int i = 0; i < 32; i++) {
            DUE.is("value(0, " + i + ")", x.value(0, i), Sample.value(i));
            DUE.is("event(0, " + i + ", 2)", x.event(0, i, 2), Sample.a(i));
            DUE.is("event(0, " + i + ", 5)", x.event(0, i, 5), 3 + i);
        }
        DUE.is("root(0)", x.root(0), Model.top(Sample.leaves(32)));
    }

    private static void backLeavesNothingBehind() {
        DUE.sentence("promise 7", "The last n BLOCKS are taken back");
        Rows x = fiveBlocks();
        x.back(3);
        DUE.is("close()", Sample.closeMany(x, 1), 2);
        DUE.is("close()", x.close(), 3);
        DUE.is("size(2, 0)", x.size(2, 0), 1);
        DUE.is("event(2, 1, 0), the old block had one there", x.event(2, 1, 0), BAD);
        DUE.is("root(2)", x.root(2), Sample.leaf(0));
        DUE.is("size(3, 0)", x.size(3, 0), 0);
        DUE.is("size(3, 1), the old one was pruned", x.size(3, 1), 1);
        DUE.is("root(3)", x.root(3), 0);
        DUE.is("filter(3)", x.filter(3), 0);
    }

    // ---- promise 8

    private static void pruneOnceAndAgain() {
        DUE.sentence("promise 8", "A BLOCK is PRUNED: 1, 0 if it was.");
        for (int many : new int[] {0, 1, 32}) {
            Rows x = Sample.ofBlock(many);
            DUE.is("prune(0) of " + many, x.prune(0), 1);
            DUE.is("prune(0) again", x.prune(0), 0);
            DUE.is("prune(0) once more", x.prune(0), 0);
            DUE.is("size(0, 1)", x.size(0, 1), 0);
        }
        Rows y = new Rows();
        States.fortyBlocksInCall(y);
        DUE.is("prune(0), also in a call", y.prune(0), 1);
        DUE.is("prune(39), the last one", y.prune(39), 1);
        DUE.is("size(38, 1), others are kept", y.size(38, 1), 1);
        DUE.changesNothing(States::inCalls, "prune(2), it was", x -> x.prune(2));
    }

    private static void pruneRefuses() {
        DUE.sentence("promise 8", "BAD.");
        for (int block : NO_BLOCKS) {
            DUE.refuses(States::inCalls, "prune(" + block + "), 4 are there", BAD, x -> x.prune(block));
        }
        DUE.refuses(States::fresh, "prune(0), none is there", BAD, x -> x.prune(0));
        DUE.refuses(States::fortyBlocks, "prune(40), 40 are there", BAD, x -> x.prune(40));
        Rows y = fiveBlocks();
        y.back(1);
        DUE.is("prune(4), it was taken back", y.prune(4), BAD);
        DUE.is("prune(3), it is there", y.prune(3), 0);
    }

    private static void prunedOnesServeNewBlocksWithoutATrace() {
        DUE.sentence("promise 8", "A BLOCK is PRUNED: 1, 0 if it was.");
        Rows x = fiveBlocks();
        for (int block = 0; block < 5; block++) {
            x.prune(block);
        }
        x.back(5);
        for (int block = 0; block < 6; block++) {
            Sample.closeMany(x, block);
            DUE.is("size(" + block + ", 1) of a new block", x.size(block, 1), 1);
            DUE.is("prune(" + block + ") of a new block", x.prune(block), 1);
        }
    }

    // ---- promise 9

    private static void sizeHasOrHad() {
        DUE.sentence("promise 9", "Of a BLOCK: 0 how many EVENTS it has, or had");
        Rows x = new Rows();
        int[] many = {0, 1, 31, 32};
        for (int block = 0; block < 4; block++) {
            Sample.closeMany(x, many[block]);
        }
        Sample.tellMany(x, 5);
        for (int block = 0; block < 4; block++) {
            DUE.is("size(" + block + ", 0)", x.size(block, 0), many[block]);
            x.prune(block);
            DUE.is("size(" + block + ", 0), it had", x.size(block, 0), many[block]);
        }
    }

    private static void sizeWhetherKept() {
        DUE.sentence("promise 9", "1 whether they are KEPT (1, 0)");
        for (int many : new int[] {0, 1, 32}) {
            Rows x = Sample.ofBlock(many);
            DUE.is("size(0, 1) of " + many, x.size(0, 1), 1);
            x.prune(0);
            DUE.is("size(0, 1) of " + many + ", pruned", x.size(0, 1), 0);
        }
    }

    private static void sizeRefuses() {
        DUE.sentence("promise 9", "BAD.");
        for (int block : NO_BLOCKS) {
            DUE.refuses(States::inCalls, "size(" + block + ", 0)", BAD, x -> x.size(block, 0));
            DUE.refuses(States::inCalls, "size(" + block + ", 1)", BAD, x -> x.size(block, 1));
        }
        for (int what : new int[] {-1, 2, MIN, MAX}) {
            DUE.refuses(States::inCalls, "size(0, " + what + ")", BAD, x -> x.size(0, what));
            DUE.refuses(States::inCalls, "size(2, " + what + "), pruned", BAD, x -> x.size(2, what));
            DUE.refuses(States::inCalls, "size(4, " + what + ")", BAD, x -> x.size(4, what));
        }
        DUE.refuses(States::fresh, "size(0, 0), none is there", BAD, x -> x.size(0, 0));
    }

    // ---- promise 10

    private static void eventDetails() {
        DUE.sentence("promise 10",
                "Of EVENT i of a BLOCK: 0 its ACCOUNT, 1 how many TOPICS, 2 to 4 these (NONE: not so many), 5 its SERIAL");
        Rows x = new Rows();
        Sample.closeMany(x, 2);
        Sample.closeMany(x, 32);
        for (int i : new int[] {0, 1, 2, 30, 31}) {
            int[] due = {Sample.account(i), 1 + i % 3, Sample.a(i), orNone(Sample.b(i)), orNone(Sample.c(i)), 2 + i};
            for (int what = 0; what <= 5; what++) {
                DUE.is("event(1, " + i + ", " + what + ")", x.event(1, i, what), due[what]);
            }
        }
    }

    private static int orNone(int topic) {
        return topic == -1 ? NONE : topic;
    }

    private static void eventNotSoManyTopics() {
        DUE.sentence("promise 10", "(NONE: not so many)");
        Rows x = new Rows();
        x.begin(100, false);
        x.tell(0, 0, -1, -1, 0);
        x.tell(0, 999, 0, -1, 0);
        x.tell(0, 999, 999, 0, 0);
        x.end(true);
        x.close();
        int[][] due = {{0, NONE, NONE}, {999, 0, NONE}, {999, 999, 0}};
        for (int i = 0; i < 3; i++) {
            for (int k = 0; k < 3; k++) {
                DUE.is("event(0, " + i + ", " + (2 + k) + ")", x.event(0, i, 2 + k), due[i][k]);
            }
        }
        DUE.changesNothing(States::inCalls, "event(0, 0, 4)", y -> y.event(0, 0, 4));
    }

    private static void eventRefuses() {
        DUE.sentence("promise 10", "BAD; GONE.");
        for (int block : NO_BLOCKS) {
            DUE.refuses(States::inCalls, "event(" + block + ", 0, 0)", BAD, x -> x.event(block, 0, 0));
        }
        for (int i : new int[] {-1, 3, 31, 32, MIN, MAX}) {
            DUE.refuses(States::inCalls, "event(0, " + i + ", 0)", BAD, x -> x.event(0, i, 0));
        }
        for (int what : new int[] {-1, 6, MIN, MAX}) {
            DUE.refuses(States::inCalls, "event(0, 0, " + what + ")", BAD, x -> x.event(0, 0, what));
        }
        DUE.refuses(States::inCalls, "event(1, 0, 0) of an empty block", BAD, x -> x.event(1, 0, 0));
        Rows y = Sample.ofBlock(32);
        DUE.is("event(0, 31, 0) of a full block", y.event(0, 31, 0), Sample.account(31));
        DUE.is("event(0, 32, 0) of a full block", y.event(0, 32, 0), BAD);
    }

    private static void eventIsGone() {
        DUE.sentence("promise 10 with Terms, REFUSALS", "GONE (EVENTS that are not KEPT)");
        for (int i = 0; i < 2; i++) {
            for (int what = 0; what <= 5; what++) {
                int number = i;
                int asked = what;
                DUE.refuses(States::inCalls, "event(2, " + i + ", " + what + ")", GONE, x -> x.event(2, number, asked));
            }
        }
    }

    // ---- promise 11

    private static void valueOfEvents() {
        DUE.sentence("promise 11", "The VALUE of EVENT i of a BLOCK.");
        Rows x = new Rows();
        Sample.closeMany(x, 1);
        Sample.closeMany(x, 32);
        for (int i = 0; i < 32; i++) {
            DUE.is("value(1, " + i + ")", x.value(1, i), Sample.value(i));
        }
        DUE.is("value(0, 0)", x.value(0, 0), Sample.value(0));
    }

    private static void valueNotKept() {
        DUE.sentence("promise 11", "NullPointer: it is not KEPT");
        for (int i = 0; i < 2; i++) {
            int number = i;
            DUE.refuses(States::inCalls, "value(2, " + i + ") when pruned", NULL, x -> x.value(2, number));
        }
    }

    private static void valueNoneSuch() {
        DUE.sentence("promise 11", "ArrayIndexOutOfBounds: there is none such.");
        for (int i : new int[] {-1, 3, 31, 32, MIN, MAX}) {
            DUE.refuses(States::inCalls, "value(0, " + i + ")", INDEX, x -> x.value(0, i));
        }
        DUE.refuses(States::inCalls, "value(1, 0) of an empty block", INDEX, x -> x.value(1, 0));
        for (int block : NO_BLOCKS) {
            DUE.refuses(States::inCalls, "value(" + block + ", 0)", INDEX, x -> x.value(block, 0));
        }
        Rows y = Sample.ofBlock(32);
        DUE.isThrown("value(0, 32) of a full block", INDEX, () -> y.value(0, 32));
    }

    private static void valueFirstOfAllTheBlock() {
        DUE.sentence("promise 11", "(First of all: no such BLOCK; then: not KEPT; then: no such EVENT.)");
        for (int i : new int[] {-1, 2, 32, MIN, MAX}) {
            DUE.refuses(States::inCalls, "value(2, " + i + ") when pruned", NULL, x -> x.value(2, i));
            DUE.refuses(States::inCalls, "value(4, " + i + ") without such a block", INDEX, x -> x.value(4, i));
        }
        Rows y = new Rows();
        y.close();
        y.prune(0);
        DUE.isThrown("value(0, 0), an empty block was pruned", NULL, () -> y.value(0, 0));
        y.back(1);
        DUE.isThrown("value(0, 0), it was pruned and taken back", INDEX, () -> y.value(0, 0));
    }

    // ---- promises 12 and 13

    private static void rootOfBlocks() {
        DUE.sentence("promise 12", "THE ROOT of a BLOCK.");
        Rows x = new Rows();
        Sample.closeMany(x, 7);
        x.close();
        Sample.closeMany(x, 32);
        Sample.tellMany(x, 3);
        long[] due = {Model.top(Sample.leaves(7)), 0, Model.top(Sample.leaves(32))};
        for (int block = 0; block < 3; block++) {
            DUE.is("root(" + block + ")", x.root(block), due[block]);
            x.prune(block);
            DUE.is("root(" + block + ") when pruned", x.root(block), due[block]);
        }
    }

    private static void rootRefuses() {
        DUE.sentence("promise 12", "ArrayIndexOutOfBounds: there is no such BLOCK.");
        for (int block : NO_BLOCKS) {
            DUE.refuses(States::inCalls, "root(" + block + ")", INDEX, x -> x.root(block));
        }
        DUE.refuses(States::fresh, "root(0), none is there", INDEX, x -> x.root(0));
        DUE.refuses(States::fortyBlocks, "root(40), 40 are there", INDEX, x -> x.root(40));
        Rows y = fiveBlocks();
        y.back(1);
        DUE.isThrown("root(4), it was taken back", INDEX, () -> y.root(4));
    }

    private static void filterOfBlocks() {
        DUE.sentence("promise 13", "THE FILTER of a BLOCK.");
        Rows x = new Rows();
        Sample.closeMany(x, 1);
        x.close();
        long due = 1L | 1L << 3 | 1L << 5;
        DUE.is("filter(0), of topic 0", x.filter(0), due);
        DUE.is("filter(1), of no events", x.filter(1), 0);
        x.prune(0);
        DUE.is("filter(0) when pruned", x.filter(0), due);
    }

    private static void filterRefuses() {
        DUE.sentence("promise 13", "Likewise.");
        for (int block : NO_BLOCKS) {
            DUE.refuses(States::inCalls, "filter(" + block + ")", INDEX, x -> x.filter(block));
        }
        DUE.refuses(States::fresh, "filter(0), none is there", INDEX, x -> x.filter(0));
        DUE.refuses(States::fortyBlocks, "filter(40), 40 are there", INDEX, x -> x.filter(40));
        Rows y = fiveBlocks();
        y.back(1);
        DUE.isThrown("filter(4), it was taken back", INDEX, () -> y.filter(4));
    }

    // ---- promise 14

    /** One block, of topics 0 and 2: bits 0, 3, 5 and 2, 17, 31. */
    private static Rows ofTopics0And2() {
        Rows x = new Rows();
        x.begin(9, false);
        x.tell(0, 0, 2, -1, 0);
        x.end(true);
        x.close();
        return x;
    }

    private static void mayWantsAllBits() {
        DUE.sentence("promise 14", "Whether all bits of a TOPIC are 1 in the FILTER of a BLOCK: 1, 0.");
        Rows x = ofTopics0And2();
        DUE.is("may(0, 61), its first bit is not", x.may(0, 61), 0);
        DUE.is("may(0, 69), its second bit is not", x.may(0, 69), 0);
        DUE.is("may(0, 17), its third bit is not", x.may(0, 17), 0);
        DUE.is("may(0, 322), all are, though no event has it", x.may(0, 322), 1);
        DUE.is("find(0, 322, 0)", x.find(0, 322, 0), NONE);
        x.prune(0);
        DUE.is("may(0, 322) when pruned", x.may(0, 322), 1);
        DUE.is("may(0, 61) when pruned", x.may(0, 61), 0);
        for (int from = 0; from < 1000; from += 500) {
            Rows y = ofTopics0And2();
            long filter = y.filter(0);
            for (int t = from; t < from + 500; t++) {
                long bits = 1L << t % 64 | 1L << (7 * t + 3) % 61 | 1L << (13 * t + 5) % 59;
                DUE.is("may(0, " + t + ")", y.may(0, t), (filter & bits) == bits ? 1 : 0);
            }
        }
    }

    private static void mayNeverMisses() {
        DUE.sentence("promise 14 with 'What it is'", "found by topics with a filter that never misses");
        Rows x = Sample.ofBlock(32);
        for (int i = 0; i < 32; i++) {
            for (int topic : new int[] {Sample.a(i), Sample.b(i), Sample.c(i)}) {
                if (topic != -1) {
                    DUE.is("may(0, " + topic + ")", x.may(0, topic), 1);
                }
            }
        }
    }

    private static void mayTakesTopics() {
        DUE.sentence("promise 14 with Terms, EVENTS", "TOPICS (0 .. 999)");
        Rows x = new Rows();
        x.begin(9, false);
        x.tell(0, 0, 999, -1, 0);
        x.end(true);
        x.close();
        x.close();
        DUE.is("may(0, 0)", x.may(0, 0), 1);
        DUE.is("may(0, 999)", x.may(0, 999), 1);
        DUE.is("may(1, 0), an empty block", x.may(1, 0), 0);
        DUE.is("may(1, 999), an empty block", x.may(1, 999), 0);
    }

    private static void mayRefuses() {
        DUE.sentence("promise 14", "BAD.");
        for (int block : NO_BLOCKS) {
            DUE.refuses(States::inCalls, "may(" + block + ", 0)", BAD, x -> x.may(block, 0));
        }
        for (int topic : new int[] {-1, 1000, -2, MIN, MAX}) {
            DUE.refuses(States::inCalls, "may(0, " + topic + ")", BAD, x -> x.may(0, topic));
            DUE.refuses(States::inCalls, "may(2, " + topic + ") when pruned", BAD, x -> x.may(2, topic));
        }
        DUE.refuses(States::fresh, "may(0, 0), none is there", BAD, x -> x.may(0, 0));
    }

    // ---- promise 15

    /** One block: topic 5 at 0 and 31, topic 6 as the second at 10, topic 7 as the third at 20; else 1. */
    private static Rows ofFullBlock() {
        Rows x = new Rows();
        x.begin(10000, false);
        for (int i = 0; i < 32; i++) {
            x.tell(0, i == 0 || i == 31 ? 5 : 1, i == 10 ? 6 : 1, i == 20 ? 7 : 1, i);
        }
        x.end(true);
        x.close();
        return x;
    }

    private static void findFromANumberOn() {
        DUE.sentence("promise 15", "The first EVENT from i (0 and more) on with a TOPIC in a BLOCK");
        Rows x = ofFullBlock();
        int[][] due = {{5, 0, 0}, {5, 1, 31}, {5, 30, 31}, {5, 31, 31}, {6, 0, 10}, {6, 9, 10}, {6, 10, 10},
            {6, 11, NONE}, {7, 0, 20}, {7, 20, 20}, {7, 21, NONE}, {1, 0, 0}, {1, 31, 31}};
        for (int[] row : due) {
            DUE.is("find(0, " + row[0] + ", " + row[1] + ")", x.find(0, row[0], row[1]), row[2]);
        }
    }

    private static void findAtTheEdgesOfFrom() {
        DUE.sentence("promise 15", "from i (0 and more) on");
        for (int i : new int[] {32, 33, 1000, MAX - 1, MAX}) {
            DUE.is("find(0, 5, " + i + ")", ofFullBlock().find(0, 5, i), NONE);
        }
        Rows x = Sample.ofBlock(3);
        DUE.is("find(0, 2, 2), the last one", x.find(0, 2, 2), 2);
        DUE.is("find(0, 2, 3), behind it", x.find(0, 2, 3), NONE);
        for (int i : new int[] {-1, -2, MIN}) {
            DUE.refuses(States::inCalls, "find(0, 0, " + i + ")", BAD, y -> y.find(0, 0, i));
            DUE.refuses(States::inCalls, "find(1, 0, " + i + ") in an empty block", BAD, y -> y.find(1, 0, i));
        }
    }

    private static void findNone() {
        DUE.sentence("promise 15", "NONE.");
        Rows x = new Rows();
        States.inCalls(x);
        DUE.is("find(1, 0, 0), an empty block", x.find(1, 0, 0), NONE);
        DUE.is("find(0, 9, 0), no such topic in it", x.find(0, 9, 0), NONE);
        DUE.is("find(3, 101, 0), only another block has it", x.find(3, 101, 0), NONE);
        DUE.is("find(0, 101, 0)", x.find(0, 101, 0), 1);
        DUE.is("find(0, 999, 0)", x.find(0, 999, 0), NONE);
        DUE.changesNothing(States::inCalls, "find(0, 9, 0)", y -> y.find(0, 9, 0));
    }

    private static void findRefuses() {
        DUE.sentence("promise 15", "BAD; GONE.");
        for (int block : NO_BLOCKS) {
            DUE.refuses(States::inCalls, "find(" + block + ", 0, 0)", BAD, x -> x.find(block, 0, 0));
        }
        for (int topic : new int[] {-1, 1000, -2, MIN, MAX}) {
            DUE.refuses(States::inCalls, "find(0, " + topic + ", 0)", BAD, x -> x.find(0, topic, 0));
        }
    }

    private static void findIsGone() {
        DUE.sentence("promise 15 with Terms, REFUSALS", "GONE (EVENTS that are not KEPT)");
        for (int i : new int[] {0, 1, 2, 32, MAX}) {
            DUE.refuses(States::inCalls, "find(2, 0, " + i + ") when pruned", GONE, x -> x.find(2, 0, i));
            DUE.refuses(States::inCalls, "find(2, 9, " + i + ") when pruned", GONE, x -> x.find(2, 9, i));
        }
        Rows y = new Rows();
        y.close();
        y.prune(0);
        DUE.is("find(0, 0, 0), an empty block was pruned", y.find(0, 0, 0), GONE);
    }
}

import java.math.BigInteger;
import java.util.List;

/** The section 'Terms', BLOCKS, ROOT, PATH and FILTER, sentence by sentence. */
public final class TermsOfBlocksTest {
    private static final int FULL = -3, GONE = -4;
    private static final BigInteger FACTOR = new BigInteger("9E3779B97F4A7C15", 16);
    private static final BigInteger TWO_TO_64 = BigInteger.ONE.shiftLeft(64);
    private static final Due DUE = new Due("TermsOfBlocksTest");

    public static void main(String[] args) {
        fortyAtOnce();
        blocksAreWhatTheOpenBlockWas();
        thirtyTwoEventsInOrder();
        mixWraps();
        aLeafHasItsTopicsInOrder();
        aLeafHasEachOfItsTopics();
        aLeafHasItsPlace();
        rootOfNoEvents();
        rootOfTheRowOfLeaves();
        rootsOfAllSizes();
        aLastOneByItselfStays();
        pathsOfAllSizes();
        nothingWhereThereIsNoneBeside();
        filterBitsOfEveryTopic();
        filterBitsAtTheEdges();
        aFilterHasEachTopicOfEachEvent();
        aFilterHasNoOtherTopics();
        prunedEventsAreNotKept();
        prunedBlocksKeepRootFilterAndHowMany();
        DUE.end();
    }

    private static Rows ofOneEvent(int account, int a, int b, int c, long value) {
        Rows x = new Rows();
        x.begin(11, false);
        x.tell(account, a, b, c, value);
        x.end(true);
        x.close();
        return x;
    }

    private static void fortyAtOnce() {
        DUE.sentence("Terms, BLOCKS", "BLOCKS 0, 1, .. (40 at once) are what THE OPEN BLOCK was when it was closed");
        Rows x = new Rows();
        for (int block = 0; block < 40; block++) {
            DUE.is("close()", x.close(), block);
        }
        DUE.is("close(), 40 are there", x.close(), FULL);
        DUE.is("back(1)", x.back(1), 0);
        DUE.is("close(), 39 are there", x.close(), 39);
        DUE.is("close(), 40 again", x.close(), FULL);
        DUE.is("back(40)", x.back(40), 0);
        for (int block = 0; block < 40; block++) {
            DUE.is("close(), from none on again", x.close(), block);
        }
        DUE.is("close(), 40 once more", x.close(), FULL);
    }

    private static void blocksAreWhatTheOpenBlockWas() {
        DUE.sentence("Terms, BLOCKS", "are what THE OPEN BLOCK was when it was closed");
        Rows x = Sample.ofBlock(5);
        showsSampleOfFive(x, "just closed");
        x.begin(1000, false);
        for (int i = 0; i < 7; i++) {
            x.tell(9, 900 + i, 910, 920, -i);
        }
        showsSampleOfFive(x, "others are told");
        x.end(false);
        showsSampleOfFive(x, "others failed");
        x.close();
        Sample.closeMany(x, 32);
        showsSampleOfFive(x, "others are closed");
        x.prune(1);
        x.back(2);
        showsSampleOfFive(x, "others are taken back");
    }

    private static void showsSampleOfFive(Rows x, String when) {
        DUE.is("size(0, 0), " + when, x.size(0, 0), 5);
        DUE.is("size(0, 1), " + when, x.size(0, 1), 1);
        DUE.is("root(0), " + when, x.root(0), Model.top(Sample.leaves(5)));
        for (int i = 0; i < 5; i++) {
            DUE.is("event(0, " + i + ", 0), " + when, x.event(0, i, 0), Sample.account(i));
            DUE.is("event(0, " + i + ", 1), " + when, x.event(0, i, 1), 1 + i % 3);
            DUE.is("event(0, " + i + ", 2), " + when, x.event(0, i, 2), Sample.a(i));
            DUE.is("event(0, " + i + ", 5), " + when, x.event(0, i, 5), i);
            DUE.is("value(0, " + i + "), " + when, x.value(0, i), Sample.value(i));
        }
    }

    private static void thirtyTwoEventsInOrder() {
        DUE.sentence("Terms, BLOCKS", "EVENTS, 32 at most, in order");
        Rows x = new Rows();
        x.begin(10000, false);
        for (int i = 0; i < 32; i++) {
            DUE.is("tell, number " + i, Sample.tell(x, i), i + 1);
        }
        DUE.is("tell, 32 are there", Sample.tell(x, 32), FULL);
        x.end(true);
        x.close();
        DUE.is("size(0, 0)", x.size(0, 0), 32);
        for (int i = 0; i < 32; i++) {
            DUE.is("event(0, " + i + ", 0)", x.event(0, i, 0), Sample.account(i));
            DUE.is("event(0, " + i + ", 2)", x.event(0, i, 2), Sample.a(i));
            DUE.is("value(0, " + i + ")", x.value(0, i), Sample.value(i));
        }
        x.begin(7, false);
        DUE.is("tell, the next block has room", Sample.tell(x, 0), 1);
    }

    /** MIX by numbers without an end, cut to 64 bits: no wrap-around of Java's is used here. */
    private static long mix(long a, long b) {
        BigInteger sum = BigInteger.valueOf(a).multiply(BigInteger.valueOf(31))
                .add(BigInteger.valueOf(b)).add(BigInteger.valueOf(7));
        BigInteger that = sum.multiply(FACTOR).mod(TWO_TO_64);
        return that.xor(that.shiftRight(29)).longValue();
    }

    private static void mixWraps() {
        DUE.sentence("Terms, BLOCKS", "MIX(a, b) is (31 a + b + 7) times 0x9E3779B97F4A7C15,"
                + " then that ^ (that >>> 29) (64 bits, wrapping)");
        long[] values = {Long.MIN_VALUE, Long.MIN_VALUE + 1, Long.MAX_VALUE, Long.MAX_VALUE - 286,
            Long.MAX_VALUE - 285, -1L, -7L, -8L, 0L, 1L, 1L << 32, -(1L << 31)};
        for (long value : values) {
            for (int account : new int[] {0, 9}) {
                for (int topic : new int[] {0, 999}) {
                    long leaf = mix(mix(mix(account, value), topic), 0);
                    DUE.is("root(0) of " + account + ", " + topic + ", " + value,
                            ofOneEvent(account, topic, -1, -1, value).root(0), leaf);
                }
            }
        }
        DUE.is("root(0), the number of the shared test", ofOneEvent(4, 999, -1, -1, Long.MAX_VALUE).root(0), 2451167920814986768L);
    }

    private static void aLeafHasItsTopicsInOrder() {
        DUE.sentence("Terms, BLOCKS", "for each TOPIC, in order, d becomes MIX(d, TOPIC)");
        int[][] orders = {{1, 2, 3}, {1, 3, 2}, {2, 1, 3}, {2, 3, 1}, {3, 1, 2}, {3, 2, 1}};
        for (int[] order : orders) {
            long leaf = mix(mix(mix(mix(mix(6, 60), order[0]), order[1]), order[2]), 0);
            DUE.is("root(0) of topics " + order[0] + ", " + order[1] + ", " + order[2],
                    ofOneEvent(6, order[0], order[1], order[2], 60).root(0), leaf);
        }
    }

    private static void aLeafHasEachOfItsTopics() {
        DUE.sentence("Terms, BLOCKS", "THE LEAF of an EVENT: d is MIX(ACCOUNT, VALUE); for each TOPIC");
        long one = mix(mix(3, 30), 0);
        DUE.is("root(0), one topic", ofOneEvent(3, 0, -1, -1, 30).root(0), mix(one, 0));
        DUE.is("root(0), two", ofOneEvent(3, 0, 0, -1, 30).root(0), mix(mix(one, 0), 0));
        DUE.is("root(0), three", ofOneEvent(3, 0, 0, 0, 30).root(0), mix(mix(mix(one, 0), 0), 0));
    }

    private static void aLeafHasItsPlace() {
        DUE.sentence("Terms, BLOCKS", "then MIX(d, its place in the BLOCK)");
        Rows x = new Rows();
        Sample.closeMany(x, 1);
        x.begin(100, false);
        x.tell(2, 9, -1, -1, 20);
        x.tell(2, 9, -1, -1, 20);
        x.end(true);
        x.close();
        long d = mix(mix(2, 20), 9);
        DUE.is("root(1), the place, not the serial", x.root(1), mix(mix(d, 0), mix(d, 1)));
    }

    private static void rootOfNoEvents() {
        DUE.sentence("Terms, BLOCKS", "THE ROOT: of no EVENTS 0");
        Rows x = new Rows();
        x.close();
        DUE.is("root(0)", x.root(0), 0);
        Sample.closeMany(x, 3);
        x.close();
        DUE.is("root(2), behind one of events", x.root(2), 0);
        x.begin(100, false);
        Sample.tell(x, 0);
        x.end(false);
        x.close();
        DUE.is("root(3), all events failed", x.root(3), 0);
    }

    private static void rootOfTheRowOfLeaves() {
        DUE.sentence("Terms, BLOCKS", "else of the row of LEAVES");
        Rows x = new Rows();
        x.begin(1000, false);
        x.tell(1, 10, -1, -1, 5);
        x.tell(2, 20, 21, -1, -6);
        x.tell(3, 30, 31, 32, Long.MAX_VALUE);
        x.tell(4, 40, -1, -1, Long.MIN_VALUE);
        x.end(true);
        x.close();
        long[] leaves = {mix(mix(mix(1, 5), 10), 0), mix(mix(mix(mix(2, -6), 20), 21), 1),
            mix(mix(mix(mix(mix(3, Long.MAX_VALUE), 30), 31), 32), 2), mix(mix(mix(4, Long.MIN_VALUE), 40), 3)};
        DUE.is("root(0)", x.root(0), mix(mix(leaves[0], leaves[1]), mix(leaves[2], leaves[3])));
        DUE.sentence("Terms, BLOCKS", "the one that is left");
        DUE.is("root(0) of a single leaf", ofOneEvent(1, 10, -1, -1, 5).root(0), leaves[0]);
    }

    private static void rootsOfAllSizes() {
        DUE.sentence("Terms, BLOCKS", "as long as there are two or more, the row of MIX of the first and second,"
                + " the third and fourth, and so on");
        for (int many = 1; many <= 32; many++) {
            DUE.is("root(0) of " + many, Sample.ofBlock(many).root(0), Model.top(Sample.leaves(many)));
        }
    }

    private static void aLastOneByItselfStays() {
        DUE.sentence("Terms, BLOCKS", "(a last one by itself stays as it is)");
        long[] leaf = new long[5];
        for (int i = 0; i < 5; i++) {
            leaf[i] = Sample.leaf(i);
        }
        long two = mix(leaf[0], leaf[1]);
        long four = mix(two, mix(leaf[2], leaf[3]));
        DUE.is("root(0) of 1", Sample.ofBlock(1).root(0), leaf[0]);
        DUE.is("root(0) of 2", Sample.ofBlock(2).root(0), two);
        DUE.is("root(0) of 3", Sample.ofBlock(3).root(0), mix(two, leaf[2]));
        DUE.is("root(0) of 4", Sample.ofBlock(4).root(0), four);
        DUE.is("root(0) of 5", Sample.ofBlock(5).root(0), mix(four, leaf[4]));
    }

    private static void pathsOfAllSizes() {
        DUE.sentence("Terms, BLOCKS", "THE PATH of an EVENT: going up from its LEAF, each time the one beside it");
        for (int many = 1; many <= 32; many++) {
            Rows x = Sample.ofBlock(many);
            for (int i = 0; i < many; i++) {
                List<Long> path = Model.path(Sample.leaves(many), i);
                DUE.is("path(0, " + i + ") of " + many, x.path(0, i), path.size());
                for (int k = 0; k < path.size(); k++) {
                    DUE.is("out(" + k + ") of " + i + " of " + many, x.out(k), path.get(k));
                }
            }
        }
    }

    private static void nothingWhereThereIsNoneBeside() {
        DUE.sentence("Terms, BLOCKS", "(nothing where there is none)");
        int[][] due = {{1, 0, 0}, {2, 0, 1}, {2, 1, 1}, {3, 1, 2}, {3, 2, 1}, {5, 4, 1}, {6, 5, 2}, {7, 6, 2},
            {9, 8, 1}, {16, 15, 4}, {17, 16, 1}, {17, 0, 5}, {31, 30, 4}, {31, 29, 5}, {32, 0, 5}, {32, 31, 5}};
        for (int[] row : due) {
            DUE.is("path(0, " + row[1] + ") of " + row[0], Sample.ofBlock(row[0]).path(0, row[1]), row[2]);
        }
        Rows x = Sample.ofBlock(3);
        x.path(0, 2);
        DUE.is("out(0) of the last of 3, the one beside it a level up", x.out(0), mix(Sample.leaf(0), Sample.leaf(1)));
    }

    private static long bitsOf(int t) {
        return bit(t % 64) | bit((7 * t + 3) % 61) | bit((13 * t + 5) % 59);
    }

    private static long bit(int number) {
        return BigInteger.ONE.shiftLeft(number).longValue();
    }

    private static void filterBitsOfEveryTopic() {
        DUE.sentence("Terms, FILTER",
                "for each TOPIC t of its EVENTS bits t modulo 64, (7 t + 3) modulo 61, (13 t + 5) modulo 59 are 1");
        for (int t = 0; t <= 999; t++) {
            DUE.is("filter(0) of topic " + t, ofOneEvent(0, t, -1, -1, 0).filter(0), bitsOf(t));
        }
    }

    private static void filterBitsAtTheEdges() {
        DUE.sentence("Terms, FILTER", "64 bits; for each TOPIC t of its EVENTS bits t modulo 64,"
                + " (7 t + 3) modulo 61, (13 t + 5) modulo 59 are 1");
        // The topic, and its three bits as worked out by hand: each modulus at its first and its last bit.
        int[][] due = {{0, 0, 3, 5}, {63, 63, 17, 57}, {64, 0, 24, 11}, {17, 17, 0, 49}, {43, 43, 60, 33},
            {45, 45, 13, 0}, {54, 54, 15, 58}, {999, 39, 42, 12}};
        for (int[] row : due) {
            DUE.is("filter(0) of topic " + row[0], ofOneEvent(0, row[0], -1, -1, 0).filter(0),
                    bit(row[1]) | bit(row[2]) | bit(row[3]));
        }
    }

    private static void aFilterHasEachTopicOfEachEvent() {
        DUE.sentence("Terms, FILTER", "for each TOPIC t of its EVENTS");
        Rows x = new Rows();
        x.begin(100, false);
        x.tell(0, 1, -1, -1, 0);
        x.tell(0, 20, 300, -1, 0);
        x.tell(0, 41, 502, 999, 0);
        x.end(true);
        x.close();
        long bits = 0;
        for (int topic : new int[] {1, 20, 300, 41, 502, 999}) {
            bits |= bitsOf(topic);
        }
        DUE.is("filter(0)", x.filter(0), bits);
        Rows y = Sample.ofBlock(32);
        long all = 0;
        for (int i = 0; i < 32; i++) {
            all |= bitsOf(Sample.a(i)) | (Sample.b(i) < 0 ? 0 : bitsOf(Sample.b(i)))
                    | (Sample.c(i) < 0 ? 0 : bitsOf(Sample.c(i)));
        }
        DUE.is("filter(0) of 32", y.filter(0), all);
    }

    private static void aFilterHasNoOtherTopics() {
        DUE.sentence("Terms, FILTER", "THE FILTER of a BLOCK");
        Rows x = new Rows();
        x.begin(100, false);
        x.tell(0, 1, -1, -1, 0);
        x.begin(50, true);
        x.tell(0, 2, -1, -1, 0);
        x.end(false);
        x.end(true);
        x.close();
        x.close();
        DUE.is("filter(0), without an event that failed", x.filter(0), bitsOf(1));
        DUE.is("filter(1), of no events", x.filter(1), 0);
        x.back(2);
        x.begin(7, false);
        x.tell(0, 3, -1, -1, 0);
        x.end(true);
        x.close();
        DUE.is("filter(0), nothing of the block that was taken back", x.filter(0), bitsOf(3));
    }

    private static void prunedEventsAreNotKept() {
        DUE.sentence("Terms, BLOCKS", "A BLOCK may be PRUNED: its EVENTS are not KEPT any more");
        Rows x = Sample.ofBlock(3);
        Sample.closeMany(x, 2);
        x.prune(0);
        for (int i = 0; i < 3; i++) {
            int asked = i;
            DUE.is("event(0, " + i + ", 0)", x.event(0, i, 0), GONE);
            DUE.isThrown("value(0, " + i + ")", NullPointerException.class, () -> x.value(0, asked));
            DUE.is("find(0, " + i + ", 0)", x.find(0, Sample.a(i), 0), GONE);
            DUE.is("path(0, " + i + ")", x.path(0, i), GONE);
        }
        DUE.is("event(1, 1, 2), another block's are", x.event(1, 1, 2), Sample.a(1));
        DUE.is("size(1, 1)", x.size(1, 1), 1);
    }

    private static void prunedBlocksKeepRootFilterAndHowMany() {
        DUE.sentence("Terms, BLOCKS", "ROOT, FILTER and how many there were are");
        for (int many : new int[] {0, 1, 3, 31, 32}) {
            Rows x = Sample.ofBlock(many);
            long root = x.root(0);
            long filter = x.filter(0);
            x.prune(0);
            DUE.is("root(0) of " + many, x.root(0), root);
            DUE.is("filter(0) of " + many, x.filter(0), filter);
            DUE.is("size(0, 0)", x.size(0, 0), many);
            Sample.closeMany(x, 5);
            DUE.is("root(0) of " + many + ", behind another close", x.root(0), root);
            DUE.is("filter(0) of " + many + ", behind another close", x.filter(0), filter);
        }
    }
}

/** Promises 6 to 15: close, back, prune, size, event, value, root, filter, may, find. */
public final class BlocksTest {
    private static final int MIN = Integer.MIN_VALUE;
    private static final int MAX = Integer.MAX_VALUE;
    private static final int[] NO_BLOCKS = {-1, 2, 39, 40, 41, MIN, MAX};
    private static final Class<NullPointerException> NULL = NullPointerException.class;
    private static final Class<ArrayIndexOutOfBoundsException> INDEX = ArrayIndexOutOfBoundsException.class;
    private static final Due DUE = new Due("BlocksTest");

    public static void main(String[] args) {
        close();
        closeRefuses();
        back();
        backRefuses();
        backLeavesTheOpenBlock();
        prune();
        size();
        event();
        serialsGoOn();
        value();
        root();
        filter();
        may();
        find();
        DUE.end();
    }

    /** A new object with a block of an event with each number of topics, and an empty block. */
    private static EventRows twoBlocks() {
        EventRows x = new EventRows();
        x.begin(10000, false);
        x.tell(1, 5, -1, -1, 77);
        x.tell(2, 5, 6, -1, -1);
        x.tell(9, 7, 6, 999, Long.MIN_VALUE);
        x.end(true);
        x.close();
        x.close();
        return x;
    }

    private static void tellMany(EventRows x, int many) {
        x.begin(10000, false);
        for (int i = 0; i < many; i++) {
            x.tell(i % 10, i, -1, -1, i);
        }
        x.end(true);
    }

    private static void close() {
        EventRows x = new EventRows();
        DUE.is("close(), an empty one", x.close(), 0);
        tellMany(x, 32);
        DUE.is("close(), a full one", x.close(), 1);
        DUE.is("told(3), a new open block", x.told(3), 0);
        DUE.is("told(5)", x.told(5), 2);
        DUE.is("size(0, 0)", x.size(0, 0), 0);
        DUE.is("size(0, 1), also an empty one is kept", x.size(0, 1), 1);
        DUE.is("size(1, 0)", x.size(1, 0), 32);
    }

    private static void closeRefuses() {
        EventRows x = new EventRows();
        x.begin(1, false);
        DUE.is("close() in a call", x.close(), -2);
        DUE.is("told(5)", x.told(5), 0);
        x.end(true);
        for (int block = 0; block < 40; block++) {
            DUE.is("close(), block " + block, x.close(), block);
        }
        tellMany(x, 3);
        DUE.is("close(), 40 are there", x.close(), -3);
        DUE.is("told(3) after FULL", x.told(3), 3);
        DUE.is("told(4) after FULL", x.told(4), 3);
        DUE.is("told(5) after FULL", x.told(5), 40);
        x.begin(1, false);
        DUE.is("close(), STATE is ahead of FULL", x.close(), -2);
        x.end(true);
        DUE.is("back(1)", x.back(1), 0);
        DUE.is("close() again", x.close(), 39);
        DUE.is("size(39, 0)", x.size(39, 0), 3);
    }

    private static void back() {
        EventRows x = new EventRows();
        for (int block = 0; block < 5; block++) {
            tellMany(x, block);
            x.close();
        }
        x.prune(3);
        DUE.is("back(0)", x.back(0), 0);
        DUE.is("told(5) after back(0)", x.told(5), 5);
        DUE.is("back(3), those of a pruned block do not count", x.back(3), 6);
        DUE.is("told(5)", x.told(5), 2);
        DUE.is("size(2, 0)", x.size(2, 0), -1);
        DUE.is("size(1, 0)", x.size(1, 0), 1);
        DUE.is("told(4), those taken back count", x.told(4), 10);
        tellMany(x, 2);
        DUE.is("close(), the number is used again", x.close(), 2);
        DUE.is("close()", x.close(), 3);
        DUE.is("size(3, 0), nothing of the old block 3", x.size(3, 0), 0);
        DUE.is("size(3, 1), it is kept", x.size(3, 1), 1);
        DUE.is("root(3)", x.root(3), 0);
        DUE.is("filter(3)", x.filter(3), 0);
        DUE.is("event(2, 1, 5)", x.event(2, 1, 5), 11);
        DUE.is("back(4), all", x.back(4), 3);
        DUE.is("told(5), none is left", x.told(5), 0);
    }

    private static void backRefuses() {
        EventRows x = twoBlocks();
        x.begin(10, true);
        for (int n : new int[] {-1, 3, MIN, MAX}) {
            DUE.is("back(" + n + "), BAD is ahead of STATE", x.back(n), -1);
        }
        DUE.is("back(0) in a call", x.back(0), -2);
        DUE.is("back(2) in a call", x.back(2), -2);
        x.end(true);
        for (int n : new int[] {-1, 3, MIN, MAX}) {
            DUE.is("back(" + n + ")", x.back(n), -1);
        }
        DUE.is("told(5) after refusals", x.told(5), 2);
        DUE.is("back(2)", x.back(2), 3);
        DUE.is("back(1), none is left", x.back(1), -1);
        DUE.is("back(0), none is left", x.back(0), 0);
    }

    private static void backLeavesTheOpenBlock() {
        EventRows x = twoBlocks();
        x.begin(100, false);
        x.tell(4, 44, 45, -1, 444);
        x.end(true);
        DUE.is("back(2)", x.back(2), 3);
        DUE.is("told(3), the open block stays", x.told(3), 1);
        DUE.is("told(4)", x.told(4), 4);
        DUE.is("close()", x.close(), 0);
        DUE.is("value(0, 0)", x.value(0, 0), 444);
        DUE.is("event(0, 0, 2)", x.event(0, 0, 2), 44);
        DUE.is("event(0, 0, 5)", x.event(0, 0, 5), 3);
    }

    private static void prune() {
        EventRows x = twoBlocks();
        for (int block : NO_BLOCKS) {
            DUE.is("prune(" + block + ")", x.prune(block), -1);
        }
        long root = x.root(0);
        long filter = x.filter(0);
        x.begin(10, false);
        DUE.is("prune(0), also in a call", x.prune(0), 1);
        x.end(true);
        DUE.is("prune(0) again", x.prune(0), 0);
        DUE.is("prune(1), an empty one", x.prune(1), 1);
        DUE.is("prune(1) again", x.prune(1), 0);
        DUE.is("size(0, 0), how many there were stays", x.size(0, 0), 3);
        DUE.is("size(0, 1)", x.size(0, 1), 0);
        DUE.is("root(0) stays", x.root(0), root);
        DUE.is("filter(0) stays", x.filter(0), filter);
        DUE.is("may(0, 999)", x.may(0, 999), 1);
        DUE.is("told(4) stays", x.told(4), 3);
        DUE.is("told(5) stays", x.told(5), 2);
        DUE.is("back(2), none of those is kept", x.back(2), 0);
        // Rows of the pruned blocks may be used again: none of that must show.
        for (int block = 0; block < 4; block++) {
            tellMany(x, block);
            x.close();
            DUE.is("size(" + block + ", 0) of a new block", x.size(block, 0), block);
            DUE.is("size(" + block + ", 1), a new block is kept", x.size(block, 1), 1);
        }
    }

    private static void size() {
        EventRows x = twoBlocks();
        for (int block : NO_BLOCKS) {
            DUE.is("size(" + block + ", 0)", x.size(block, 0), -1);
            DUE.is("size(" + block + ", 1)", x.size(block, 1), -1);
        }
        for (int what : new int[] {-1, 2, MIN, MAX}) {
            DUE.is("size(0, " + what + ")", x.size(0, what), -1);
        }
        DUE.is("size(0, 0)", x.size(0, 0), 3);
        DUE.is("size(0, 1)", x.size(0, 1), 1);
        DUE.is("size(1, 0)", x.size(1, 0), 0);
        x.prune(1);
        DUE.is("size(1, 1)", x.size(1, 1), 0);
    }

    private static void event() {
        EventRows x = twoBlocks();
        long[][] due = {{1, 1, 5, -5, -5, 0}, {2, 2, 5, 6, -5, 1}, {9, 3, 7, 6, 999, 2}};
        for (int i = 0; i < 3; i++) {
            for (int what = 0; what <= 5; what++) {
                DUE.is("event(0, " + i + ", " + what + ")", x.event(0, i, what), due[i][what]);
            }
        }
        eventIsBad(x);
        x.prune(0);
        eventIsBad(x);
        for (int what = 0; what <= 5; what++) {
            DUE.is("event(0, 2, " + what + ") when pruned", x.event(0, 2, what), -4);
        }
    }

    private static void eventIsBad(EventRows x) {
        for (int block : NO_BLOCKS) {
            DUE.is("event(" + block + ", 0, 0)", x.event(block, 0, 0), -1);
        }
        for (int i : new int[] {-1, 3, 32, MIN, MAX}) {
            DUE.is("event(0, " + i + ", 0)", x.event(0, i, 0), -1);
        }
        for (int what : new int[] {-1, 6, MIN, MAX}) {
            DUE.is("event(0, 0, " + what + ")", x.event(0, 0, what), -1);
        }
        DUE.is("event(1, 0, 0), an empty block", x.event(1, 0, 0), -1);
    }

    private static void serialsGoOn() {
        EventRows x = new EventRows();
        tellMany(x, 3);
        x.close();
        tellMany(x, 2);
        x.close();
        x.begin(100, false);
        x.tell(1, 1, -1, -1, 1);
        x.end(false);
        tellMany(x, 1);
        x.back(1);
        tellMany(x, 1);
        x.close();
        DUE.is("event(0, 2, 5)", x.event(0, 2, 5), 2);
        DUE.is("event(1, 0, 5), those taken back count", x.event(1, 0, 5), 5);
        DUE.is("event(1, 1, 5), one that failed does not", x.event(1, 1, 5), 6);
        DUE.is("told(4)", x.told(4), 7);
    }

    private static void value() {
        EventRows x = twoBlocks();
        DUE.is("value(0, 0)", x.value(0, 0), 77);
        DUE.is("value(0, 1)", x.value(0, 1), -1);
        DUE.is("value(0, 2)", x.value(0, 2), Long.MIN_VALUE);
        for (int block : NO_BLOCKS) {
            DUE.isThrown("value(" + block + ", 0)", INDEX, () -> x.value(block, 0));
        }
        for (int i : new int[] {-1, 3, 31, 32, MIN, MAX}) {
            DUE.isThrown("value(0, " + i + ")", INDEX, () -> x.value(0, i));
        }
        DUE.isThrown("value(1, 0)", INDEX, () -> x.value(1, 0));
        x.prune(0);
        x.prune(1);
        for (int i : new int[] {0, 2, -1, 3, 32, MIN, MAX}) {
            DUE.isThrown("value(0, " + i + ") when pruned", NULL, () -> x.value(0, i));
        }
        DUE.isThrown("value(1, 0) when pruned", NULL, () -> x.value(1, 0));
        DUE.isThrown("value(2, 0) without such a block", INDEX, () -> x.value(2, 0));
    }

    private static void root() {
        EventRows x = twoBlocks();
        for (int block : NO_BLOCKS) {
            DUE.isThrown("root(" + block + ")", INDEX, () -> x.root(block));
        }
        DUE.is("root(1), of no events", x.root(1), 0);
        long a = Model.mix(Model.mix(Model.mix(1, 77), 5), 0);
        long b = Model.mix(Model.mix(Model.mix(Model.mix(2, -1), 5), 6), 1);
        long c = Model.mix(Model.mix(Model.mix(Model.mix(Model.mix(9, Long.MIN_VALUE), 7), 6), 999), 2);
        DUE.is("root(0), the last leaf by itself", x.root(0), Model.mix(Model.mix(a, b), c));
        EventRows y = new EventRows();
        y.begin(100, false);
        y.tell(4, 999, -1, -1, Long.MAX_VALUE);
        y.end(true);
        y.close();
        DUE.is("root(0) of one event is its leaf", y.root(0), 2451167920814986768L);
    }

    private static void filter() {
        EventRows x = twoBlocks();
        for (int block : NO_BLOCKS) {
            DUE.isThrown("filter(" + block + ")", INDEX, () -> x.filter(block));
        }
        DUE.is("filter(1), of no events", x.filter(1), 0);
        long bits = bit(5) | bit(38) | bit(70 - 59)      // 5
                | bit(6) | bit(45) | bit(83 - 59)        // 6
                | bit(7) | bit(52) | bit(96 - 59)        // 7
                | bit(39) | bit(42) | bit(12);           // 999
        DUE.is("filter(0)", x.filter(0), bits);
        EventRows y = new EventRows();
        y.begin(100, false);
        y.tell(0, 63, -1, -1, 0);
        y.end(true);
        y.close();
        DUE.is("filter(0) with the highest bit", y.filter(0), bit(63) | bit(444 % 61) | bit(824 % 59));
    }

    private static long bit(int number) {
        return 1L << number;
    }

    private static void may() {
        EventRows x = twoBlocks();
        for (int block : NO_BLOCKS) {
            DUE.is("may(" + block + ", 5)", x.may(block, 5), -1);
        }
        for (int topic : new int[] {-1, 1000, MIN, MAX}) {
            DUE.is("may(0, " + topic + ")", x.may(0, topic), -1);
        }
        for (int topic = 0; topic < 1000; topic++) {
            long bits = bit(topic % 64) | bit((7 * topic + 3) % 61) | bit((13 * topic + 5) % 59);
            DUE.is("may(0, " + topic + ")", x.may(0, topic), (x.filter(0) & bits) == bits ? 1 : 0);
            DUE.is("may(1, " + topic + ")", x.may(1, topic), 0);
        }
        for (int topic : new int[] {5, 6, 7, 999}) {
            DUE.is("may(0, " + topic + "), it never misses", x.may(0, topic), 1);
        }
        DUE.is("may(0, 69), only one of its bits is there", x.may(0, 69), 0);
    }

    private static void find() {
        EventRows x = twoBlocks();
        int[][] due = {{5, 0, 0}, {5, 1, 1}, {5, 2, -5}, {6, 0, 1}, {6, 1, 1}, {6, 2, 2}, {7, 0, 2},
            {999, 0, 2}, {999, 2, 2}, {999, 3, -5}, {8, 0, -5}, {5, 32, -5}, {5, MAX, -5}};
        for (int[] row : due) {
            DUE.is("find(0, " + row[0] + ", " + row[1] + ")", x.find(0, row[0], row[1]), row[2]);
        }
        DUE.is("find(1, 5, 0), an empty block", x.find(1, 5, 0), -5);
        findIsBad(x);
        x.prune(0);
        x.prune(1);
        findIsBad(x);
        DUE.is("find(0, 5, 0) when pruned", x.find(0, 5, 0), -4);
        DUE.is("find(0, 8, 99) when pruned", x.find(0, 8, 99), -4);
        DUE.is("find(1, 5, 0) when pruned", x.find(1, 5, 0), -4);
    }

    private static void findIsBad(EventRows x) {
        for (int block : NO_BLOCKS) {
            DUE.is("find(" + block + ", 5, 0)", x.find(block, 5, 0), -1);
        }
        for (int topic : new int[] {-1, 1000, MIN, MAX}) {
            DUE.is("find(0, " + topic + ", 0)", x.find(0, topic, 0), -1);
        }
        DUE.is("find(0, 5, -1)", x.find(0, 5, -1), -1);
        DUE.is("find(0, 5, MIN)", x.find(0, 5, MIN), -1);
    }
}

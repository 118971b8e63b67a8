/** States of an object in which a change would show, for calls that must not change anything. */
final class States {
    private States() {
    }

    static void fresh(Rows x) {
        // A new object is as it should be.
    }

    /**
     * Blocks 0 of three events, 1 of none, 2 pruned, 3 of one, and two events in the open block;
     * subscribers 0 amid block 0, 1 at the block to come, 2 at block 2; two in OUT; no call.
     */
    static void rich(Rows x) {
        Sample.closeMany(x, 3);
        x.close();
        Sample.closeMany(x, 2);
        x.prune(2);
        Sample.closeMany(x, 1);
        x.subscribe(-1, 0);
        x.next(0);
        x.subscribe(-1, 4);
        x.subscribe(0, 2);
        x.lay(11);
        x.lay(Long.MIN_VALUE);
        Sample.tellMany(x, 2);
    }

    /** Three calls are open, the second is caught; each has told an event and has units left. */
    static void inCalls(Rows x) {
        rich(x);
        x.begin(200, false);
        Sample.tell(x, 3);
        x.begin(100, true);
        Sample.tell(x, 4);
        x.begin(30, false);
        Sample.tell(x, 5);
    }

    /** Two calls are open; the inner one has used all its units. */
    static void withoutUnits(Rows x) {
        rich(x);
        x.begin(50, true);
        Sample.tell(x, 3);
        x.begin(7, false);
        Sample.tell(x, 6);
    }

    static void eightCalls(Rows x) {
        rich(x);
        eightWithin(x, 100);
    }

    /** Eight calls are open; the innermost one has no unit. */
    static void eightCallsWithoutUnits(Rows x) {
        rich(x);
        eightWithin(x, 7);
    }

    private static void eightWithin(Rows x, int limit) {
        for (int depth = 1; depth <= 8; depth++) {
            x.begin(limit, depth % 3 == 0);
        }
    }

    /** 32 events in the open block, and a call with units left. */
    static void fullOpenBlock(Rows x) {
        fillOpenBlock(x);
        x.begin(100, false);
    }

    /** 32 events in the open block, and two calls within each other, the inner one with less than an event needs. */
    static void fullOpenBlockWithoutUnits(Rows x) {
        fillOpenBlock(x);
        x.begin(100, false);
        x.begin(6, false);
    }

    static void fullOpenBlockWithoutCall(Rows x) {
        fillOpenBlock(x);
    }

    private static void fillOpenBlock(Rows x) {
        Sample.closeMany(x, 1);
        x.subscribe(-1, 0);
        x.lay(11);
        Sample.tellMany(x, 32);
    }

    /** 40 blocks, the first and the last of events, and three events in the open one; no call. */
    static void fortyBlocks(Rows x) {
        Sample.closeMany(x, 2);
        for (int block = 1; block < 39; block++) {
            x.close();
        }
        Sample.closeMany(x, 1);
        x.subscribe(-1, 0);
        x.subscribe(0, 40);
        x.subscribe(0, 39);
        x.lay(11);
        Sample.tellMany(x, 3);
    }

    static void fortyBlocksInCall(Rows x) {
        fortyBlocks(x);
        x.begin(10, true);
    }

    /** Eight subscribers, at the block to come and at all that are there, the last one at block 0. */
    static void eightSubscribers(Rows x) {
        inCalls(x);
        for (int subscriber = 3; subscriber < 8; subscriber++) {
            x.subscribe(subscriber - 4, 7 - subscriber);
        }
    }

    static void fiveInOut(Rows x) {
        inCalls(x);
        for (int k = 2; k < 5; k++) {
            x.lay(100 + k);
        }
    }
}

/** Promises 21 to 23, sentence by sentence: subscribe, next, place. */
public final class SubscribersTest {
    private static final int BAD = -1, FULL = -3, NONE = -5;
    private static final int MIN = Integer.MIN_VALUE, MAX = Integer.MAX_VALUE;
    private static final Due DUE = new Due("SubscribersTest");

    public static void main(String[] args) {
        subscribeTellsTheNumber();
        subscribeTakesTopics();
        subscribeRefusesOtherTopics();
        subscribeTakesBlocks();
        subscribeTakesTheOneThatWillBeClosedNext();
        subscribeTakesItBehindFortyBlocks();
        subscribeRefusesOtherBlocks();
        subscribeIsFull();
        nextTellsBlockAndPlace();
        nextIsNone();
        nextInACall();
        nextRefuses();
        placeTellsBlockAndNumber();
        placeChangesNothing();
        placeRefuses();
        DUE.end();
    }

    // ---- promise 21

    private static void subscribeTellsTheNumber() {
        DUE.sentence("promise 21", "A SUBSCRIBER to a TOPIC (-1: any) from the beginning of a BLOCK on"
                + " (of the one that will be closed next, too): its number.");
        Rows x = new Rows();
        for (int number = 0; number <= 7; number++) {
            DUE.is("subscribe", x.subscribe(3, 0), number);
            DUE.is("told(6)", x.told(6), number + 1);
        }
    }

    private static void subscribeTakesTopics() {
        DUE.sentence("promise 21 with Terms, EVENTS", "TOPICS (0 .. 999)");
        Rows x = new Rows();
        int[] topics = {-1, 0, 1, 998, 999};
        for (int number = 0; number < topics.length; number++) {
            DUE.is("subscribe(" + topics[number] + ", 0)", x.subscribe(topics[number], 0), number);
        }
        x.begin(100, false);
        x.tell(0, 999, -1, -1, 0);
        x.tell(0, 5, 0, -1, 0);
        x.end(true);
        x.close();
        int[] due = {0, 1, NONE, NONE, 0};
        for (int number = 0; number < topics.length; number++) {
            DUE.is("next for topic " + topics[number], x.next(number), due[number]);
        }
    }

    private static void subscribeRefusesOtherTopics() {
        DUE.sentence("promise 21", "A SUBSCRIBER to a TOPIC (-1: any)");
        for (int topic : new int[] {-2, 1000, MIN, MAX}) {
            DUE.refuses(States::inCalls, "subscribe(" + topic + ", 0)", BAD, x -> x.subscribe(topic, 0));
            DUE.refuses(States::fresh, "subscribe(" + topic + ", 0), no blocks", BAD, x -> x.subscribe(topic, 0));
        }
    }

    private static void subscribeTakesBlocks() {
        DUE.sentence("promise 21", "from the beginning of a BLOCK on");
        Rows x = new Rows();
        States.inCalls(x);
        for (int block = 0; block <= 4; block++) {
            DUE.is("subscribe(-1, " + block + ")", x.subscribe(-1, block), 3 + block);
            DUE.is("place", x.place(3 + block), 100 * block);
        }
        int[] due = {0, 300, 300, 300, NONE};
        for (int block = 0; block <= 4; block++) {
            DUE.is("next, from block " + block + " on", x.next(3 + block), due[block]);
        }
    }

    private static void subscribeTakesTheOneThatWillBeClosedNext() {
        DUE.sentence("promise 21", "(of the one that will be closed next, too)");
        Rows x = new Rows();
        DUE.is("subscribe(-1, 0), no blocks", x.subscribe(-1, 0), 0);
        DUE.is("subscribe(-1, 1), no blocks", x.subscribe(-1, 1), BAD);
        Sample.closeMany(x, 1);
        DUE.is("subscribe(-1, 1), one block", x.subscribe(-1, 1), 1);
        DUE.is("subscribe(-1, 2), one block", x.subscribe(-1, 2), BAD);
        x.begin(100, false);
        Sample.tell(x, 0);
        DUE.is("subscribe(-1, 1) in a call", x.subscribe(-1, 1), 2);
        x.end(true);
        DUE.is("next(1)", x.next(1), NONE);
        x.close();
        for (int[] due : new int[][] {{0, 0}, {1, 100}, {2, 100}}) {
            DUE.is("next(" + due[0] + ")", x.next(due[0]), due[1]);
        }
    }

    private static void subscribeTakesItBehindFortyBlocks() {
        DUE.sentence("promise 21", "(of the one that will be closed next, too)");
        Rows x = new Rows();
        States.fortyBlocks(x);
        DUE.is("subscribe(-1, 40)", x.subscribe(-1, 40), 3);
        DUE.is("place(3)", x.place(3), 4000);
        DUE.is("subscribe(-1, 41)", x.subscribe(-1, 41), BAD);
        x.back(1);
        DUE.is("place(3), a block is taken back", x.place(3), 3900);
        DUE.is("subscribe(-1, 40), 39 blocks", x.subscribe(-1, 40), BAD);
        x.close();
        DUE.is("next(3)", x.next(3), 3900);
    }

    private static void subscribeRefusesOtherBlocks() {
        DUE.sentence("promise 21", "from the beginning of a BLOCK on (of the one that will be closed next, too)");
        for (int block : new int[] {-1, 5, 40, 41, MIN, MAX}) {
            DUE.refuses(States::rich, "subscribe(-1, " + block + "), 4 blocks", BAD, x -> x.subscribe(-1, block));
            DUE.refuses(States::inCalls, "subscribe(0, " + block + ") in calls", BAD, x -> x.subscribe(0, block));
        }
        for (int block : new int[] {-1, 41, MIN, MAX}) {
            DUE.refuses(States::fortyBlocks, "subscribe(-1, " + block + "), 40 blocks", BAD, x -> x.subscribe(-1, block));
        }
    }

    private static void subscribeIsFull() {
        DUE.sentence("promise 21 with Terms, SUBSCRIBERS", "SUBSCRIBERS 0 .. 7");
        for (int topic : new int[] {-1, 0, 999}) {
            DUE.refuses(States::eightSubscribers, "subscribe(" + topic + ", 0)", FULL, x -> x.subscribe(topic, 0));
            DUE.refuses(States::eightSubscribers, "subscribe(" + topic + ", 4)", FULL, x -> x.subscribe(topic, 4));
        }
        Rows y = new Rows();
        Sample.closeMany(y, 1);
        for (int number = 0; number <= 7; number++) {
            y.subscribe(-1, 0);
        }
        y.back(1);
        DUE.is("subscribe, they stay when blocks are taken back", y.subscribe(-1, 0), FULL);
    }

    // ---- promise 22

    private static void nextTellsBlockAndPlace() {
        DUE.sentence("promise 22", "What is NEXT for a SUBSCRIBER: 100 times its BLOCK and its place there");
        Rows x = new Rows();
        x.subscribe(-1, 0);
        for (int block = 0; block < 39; block++) {
            x.close();
        }
        Sample.closeMany(x, 32);
        for (int i = 0; i < 32; i++) {
            DUE.is("next(0)", x.next(0), 3900 + i);
        }
        DUE.is("next(0)", x.next(0), NONE);
        Rows y = new Rows();
        y.subscribe(-1, 0);
        Sample.closeMany(y, 1);
        DUE.is("next(0), the very first", y.next(0), 0);
    }

    private static void nextIsNone() {
        DUE.sentence("promise 22", "NONE.");
        Rows x = new Rows();
        x.subscribe(-1, 0);
        DUE.is("next(0), no blocks", x.next(0), NONE);
        x.close();
        DUE.is("next(0), an empty block", x.next(0), NONE);
        DUE.is("place(0), it has gone on", x.place(0), 100);
        DUE.is("next(0) once more", x.next(0), NONE);
        DUE.is("place(0)", x.place(0), 100);
        Sample.closeMany(x, 1);
        DUE.is("next(0), one came", x.next(0), 100);
    }

    private static void nextInACall() {
        DUE.sentence("promise 22", "What is NEXT for a SUBSCRIBER");
        Rows x = new Rows();
        States.inCalls(x);
        DUE.is("next(0), amid block 0", x.next(0), 1);
        DUE.is("next(0)", x.next(0), 2);
        DUE.is("next(0), block 1 is empty and 2 is pruned", x.next(0), 300);
        DUE.is("next(0)", x.next(0), NONE);
        DUE.is("place(0)", x.place(0), 400);
    }

    private static void nextRefuses() {
        DUE.sentence("promise 22", "BAD.");
        for (int subscriber : new int[] {-1, 3, 7, 8, MIN, MAX}) {
            DUE.refuses(States::inCalls, "next(" + subscriber + ") of 3", BAD, x -> x.next(subscriber));
        }
        for (int subscriber : new int[] {-1, 8, MIN, MAX}) {
            DUE.refuses(States::eightSubscribers, "next(" + subscriber + ") of 8", BAD, x -> x.next(subscriber));
        }
        for (int subscriber : new int[] {-1, 0, 7}) {
            DUE.refuses(States::fresh, "next(" + subscriber + ") of none", BAD, x -> x.next(subscriber));
        }
        Rows y = new Rows();
        States.eightSubscribers(y);
        DUE.is("next(7) of 8", y.next(7), NONE);
    }

    // ---- promise 23

    private static void placeTellsBlockAndNumber() {
        DUE.sentence("promise 23", "A SUBSCRIBER's PLACE, told likewise.");
        Rows x = new Rows();
        x.subscribe(-1, 0);
        DUE.is("place(0) of a new one", x.place(0), 0);
        Sample.closeMany(x, 32);
        DUE.is("place(0), blocks that come do not move it", x.place(0), 0);
        x.prune(0);
        DUE.is("place(0), pruning does not move it", x.place(0), 0);
        Sample.closeMany(x, 32);
        for (int i = 0; i < 32; i++) {
            x.next(0);
            DUE.is("place(0)", x.place(0), 100 + i + 1);
        }
        x.next(0);
        DUE.is("place(0), at the one that will be closed next", x.place(0), 200);
    }

    private static void placeChangesNothing() {
        DUE.sentence("promise 23", "A SUBSCRIBER's PLACE, told likewise.");
        DUE.changesNothing(States::inCalls, "place(0)", x -> x.place(0));
        DUE.changesNothing(States::eightSubscribers, "place(7)", x -> x.place(7));
    }

    private static void placeRefuses() {
        DUE.sentence("promise 23", "BAD.");
        for (int subscriber : new int[] {-1, 3, 7, 8, MIN, MAX}) {
            DUE.refuses(States::inCalls, "place(" + subscriber + ") of 3", BAD, x -> x.place(subscriber));
        }
        for (int subscriber : new int[] {-1, 8, MIN, MAX}) {
            DUE.refuses(States::eightSubscribers, "place(" + subscriber + ") of 8", BAD, x -> x.place(subscriber));
        }
        DUE.refuses(States::fresh, "place(0) of none", BAD, x -> x.place(0));
        Rows y = new Rows();
        States.eightSubscribers(y);
        DUE.is("place(7) of 8", y.place(7), 0);
    }
}

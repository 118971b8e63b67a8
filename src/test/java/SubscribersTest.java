/** Promises 21 to 23: subscribe, next, place. */
public final class SubscribersTest {
    private static final int MIN = Integer.MIN_VALUE;
    private static final int MAX = Integer.MAX_VALUE;
    private static final Due DUE = new Due("SubscribersTest");

    public static void main(String[] args) {
        subscribe();
        subscribeToTheLastBlockOfAll();
        subscribeRefuses();
        nextByTopic();
        nextOfAny();
        nextSkipsWhatIsNotKept();
        nextDoesNotSeeTheOpenBlock();
        placesWhenBlocksAreTakenBack();
        eachHasItsOwnPlace();
        noSuchSubscriber();
        DUE.end();
    }

    /** A block with an event for each first topic; a second one is 50 more. */
    private static void closeWith(EventRows x, int... topics) {
        x.begin(10000, false);
        for (int topic : topics) {
            x.tell(1, topic, topic + 50, -1, topic);
        }
        x.end(true);
        x.close();
    }

    private static void subscribe() {
        EventRows x = new EventRows();
        DUE.is("subscribe(-1, 0), the block to be closed next", x.subscribe(-1, 0), 0);
        DUE.is("place(0)", x.place(0), 0);
        x.close();
        x.close();
        DUE.is("subscribe(999, 2)", x.subscribe(999, 2), 1);
        DUE.is("place(1)", x.place(1), 200);
        DUE.is("subscribe(0, 1)", x.subscribe(0, 1), 2);
        DUE.is("place(2)", x.place(2), 100);
        x.prune(0);
        x.begin(5, false);
        DUE.is("subscribe to a pruned block, in a call", x.subscribe(0, 0), 3);
        DUE.is("told(6)", x.told(6), 4);
    }

    private static void subscribeToTheLastBlockOfAll() {
        EventRows x = new EventRows();
        for (int block = 0; block < 40; block++) {
            closeWith(x, 1);
        }
        DUE.is("subscribe(1, 40)", x.subscribe(1, 40), 0);
        DUE.is("place(0)", x.place(0), 4000);
        DUE.is("subscribe(1, 41)", x.subscribe(1, 41), -1);
        DUE.is("next(0)", x.next(0), -5);
        DUE.is("back(1)", x.back(1), 1);
        DUE.is("place(0)", x.place(0), 3900);
        closeWith(x, 3, 1);
        DUE.is("next(0)", x.next(0), 3901);
        DUE.is("place(0)", x.place(0), 3902);
    }

    private static void subscribeRefuses() {
        EventRows x = new EventRows();
        x.close();
        subscribeIsBad(x);
        DUE.is("told(6) after refusals", x.told(6), 0);
        for (int subscriber = 0; subscriber < 8; subscriber++) {
            DUE.is("subscribe, number " + subscriber, x.subscribe(subscriber, 0), subscriber);
        }
        DUE.is("subscribe, there are 8", x.subscribe(1, 0), -3);
        subscribeIsBad(x);
        DUE.is("told(6)", x.told(6), 8);
        DUE.is("place(7)", x.place(7), 0);
        DUE.is("place(8)", x.place(8), -1);
    }

    private static void subscribeIsBad(EventRows x) {
        for (int topic : new int[] {-2, 1000, MIN, MAX}) {
            DUE.is("subscribe(" + topic + ", 0)", x.subscribe(topic, 0), -1);
        }
        for (int block : new int[] {-1, 2, MIN, MAX}) {
            DUE.is("subscribe(1, " + block + ")", x.subscribe(1, block), -1);
        }
    }

    private static void nextByTopic() {
        EventRows x = new EventRows();
        closeWith(x, 1, 2, 1);
        closeWith(x);
        closeWith(x, 2, 1);
        x.subscribe(1, 0);
        x.subscribe(52, 0);
        x.subscribe(1, 1);
        x.subscribe(3, 0);
        for (int due : new int[] {0, 2, 201, -5, -5}) {
            DUE.is("next(0)", x.next(0), due);
        }
        for (int due : new int[] {1, 200, -5}) {
            DUE.is("next(1), by the second topic", x.next(1), due);
        }
        for (int due : new int[] {201, -5}) {
            DUE.is("next(2), from block 1 on", x.next(2), due);
        }
        DUE.is("next(3), nothing for it", x.next(3), -5);
        DUE.is("place(3)", x.place(3), 300);
        closeWith(x, 9, 3);
        DUE.is("next(3)", x.next(3), 301);
        DUE.is("next(0)", x.next(0), -5);
        DUE.is("place(0)", x.place(0), 400);
    }

    private static void nextOfAny() {
        EventRows x = new EventRows();
        x.subscribe(-1, 0);
        closeWith(x, 1, 2);
        closeWith(x, 3);
        for (int[] due : new int[][] {{0, 1}, {1, 2}, {100, 101}, {-5, 200}}) {
            DUE.is("next(0)", x.next(0), due[0]);
            DUE.is("place(0), behind that", x.place(0), due[1]);
        }
        closeWith(x, new int[32]);
        for (int i = 0; i < 32; i++) {
            DUE.is("next(0)", x.next(0), 200 + i);
        }
        DUE.is("place(0), behind the last one", x.place(0), 232);
    }

    private static void nextSkipsWhatIsNotKept() {
        EventRows x = new EventRows();
        x.subscribe(-1, 0);
        closeWith(x, 1, 2);
        closeWith(x, 1);
        closeWith(x, 1);
        DUE.is("next(0)", x.next(0), 0);
        x.prune(0);
        x.prune(1);
        DUE.is("place(0) stays", x.place(0), 1);
        DUE.is("next(0)", x.next(0), 200);
        x.prune(2);
        DUE.is("next(0), none is kept", x.next(0), -5);
        DUE.is("place(0)", x.place(0), 300);
    }

    private static void nextDoesNotSeeTheOpenBlock() {
        EventRows x = new EventRows();
        x.subscribe(1, 0);
        x.begin(100, false);
        x.tell(1, 1, -1, -1, 1);
        DUE.is("next(0) in a call", x.next(0), -5);
        x.end(true);
        DUE.is("next(0), not closed yet", x.next(0), -5);
        DUE.is("place(0)", x.place(0), 0);
        x.close();
        DUE.is("next(0)", x.next(0), 0);
    }

    private static void placesWhenBlocksAreTakenBack() {
        EventRows x = new EventRows();
        closeWith(x, 1, 1);
        closeWith(x, 1, 1);
        closeWith(x, 1, 1);
        x.subscribe(1, 0);
        x.subscribe(1, 1);
        x.subscribe(1, 2);
        x.subscribe(1, 3);
        for (int subscriber = 0; subscriber < 3; subscriber++) {
            x.next(subscriber);
            x.next(subscriber);
        }
        DUE.is("back(0)", x.back(0), 0);
        for (int[] due : new int[][] {{0, 2}, {1, 102}, {2, 202}, {3, 300}}) {
            DUE.is("place(" + due[0] + ") after back(0)", x.place(due[0]), due[1]);
        }
        DUE.is("back(2)", x.back(2), 4);
        for (int[] due : new int[][] {{0, 2}, {1, 100}, {2, 100}, {3, 100}}) {
            DUE.is("place(" + due[0] + ") after back(2)", x.place(due[0]), due[1]);
        }
        closeWith(x, 5, 1);
        for (int subscriber = 0; subscriber < 4; subscriber++) {
            DUE.is("next(" + subscriber + ") in the new block", x.next(subscriber), 101);
        }
        x.back(2);
        DUE.is("place(0), all are taken back", x.place(0), 0);
    }

    private static void eachHasItsOwnPlace() {
        EventRows x = new EventRows();
        x.subscribe(1, 0);
        x.subscribe(1, 0);
        closeWith(x, 1, 1);
        DUE.is("next(0)", x.next(0), 0);
        DUE.is("next(0)", x.next(0), 1);
        DUE.is("next(1)", x.next(1), 0);
        DUE.is("place(0)", x.place(0), 2);
        DUE.is("place(1)", x.place(1), 1);
    }

    private static void noSuchSubscriber() {
        EventRows x = new EventRows();
        x.subscribe(-1, 0);
        for (int subscriber : new int[] {-1, 1, 7, 8, MIN, MAX}) {
            DUE.is("next(" + subscriber + ")", x.next(subscriber), -1);
            DUE.is("place(" + subscriber + ")", x.place(subscriber), -1);
        }
    }
}

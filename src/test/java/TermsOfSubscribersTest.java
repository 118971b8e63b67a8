/** The section 'Terms', SUBSCRIBERS, sentence by sentence. */
public final class TermsOfSubscribersTest {
    private static final int FULL = -3, NONE = -5;
    private static final Due DUE = new Due("TermsOfSubscribersTest");

    public static void main(String[] args) {
        eightOfThem();
        aTopicOrAny();
        aPlaceIsABlockAndANumber();
        nextGoesOnFromThePlace();
        nextGoesThroughBlocksThatAreThere();
        nextPassesOverWhatIsNotKept();
        nextLooksAtEachOfTheTopics();
        thePlaceIsBehindWhatWasFound();
        withoutOneThePlaceIsAtTheBlockToCome();
        withoutOneBehindFortyBlocks();
        theOpenBlockIsNotLookedAt();
        placesInBlocksThatAreTakenBack();
        placesFurtherOn();
        placesInBlocksThatStay();
        backOfNoneMovesNoPlace();
        newBlocksAreToldFromTheirBeginning();
        DUE.end();
    }

    private static void eightOfThem() {
        DUE.sentence("Terms, SUBSCRIBERS", "SUBSCRIBERS 0 .. 7 have a TOPIC (-1: any) and a PLACE");
        Rows x = new Rows();
        Sample.closeTopics(x, 1, 2, 3, 4, 5, 6, 7, 8);
        for (int number = 0; number <= 7; number++) {
            DUE.is("subscribe", x.subscribe(number + 1, 0), number);
        }
        DUE.is("subscribe, the ninth", x.subscribe(1, 0), FULL);
        for (int number = 7; number >= 0; number--) {
            DUE.is("next(" + number + "), each has its own topic", x.next(number), number);
        }
        for (int number = 0; number <= 7; number++) {
            DUE.is("place(" + number + "), each has its own place", x.place(number), number + 1);
        }
    }

    private static void aTopicOrAny() {
        DUE.sentence("Terms, SUBSCRIBERS", "SUBSCRIBERS 0 .. 7 have a TOPIC (-1: any)");
        Rows x = new Rows();
        x.begin(100, false);
        x.tell(0, 0, -1, -1, 0);
        x.tell(0, 999, 0, -1, 0);
        x.end(true);
        x.close();
        int[][] due = {{-1, 0, 1, NONE}, {0, 0, 1, NONE}, {999, 1, NONE, NONE}, {1, NONE, NONE, NONE}};
        for (int number = 0; number < due.length; number++) {
            x.subscribe(due[number][0], 0);
            for (int k = 1; k < 4; k++) {
                DUE.is("next for topic " + due[number][0], x.next(number), due[number][k]);
            }
        }
    }

    private static void aPlaceIsABlockAndANumber() {
        DUE.sentence("Terms, SUBSCRIBERS", "a PLACE: a BLOCK and a number in it");
        for (int block = 0; block < 3; block++) {
            for (int number = 0; number <= 2; number++) {
                Rows x = threeBlocks();
                x.subscribe(1, block);
                for (int times = 0; times < number; times++) {
                    x.next(0);
                }
                DUE.is("place(0)", x.place(0), 100 * block + number);
                DUE.is("next(0) is at its place, or at the next block", x.next(0), nextOfThree(block, number));
            }
        }
    }

    private static int nextOfThree(int block, int number) {
        if (number < 2) {
            return 100 * block + number;
        }
        return block < 2 ? 100 * (block + 1) : NONE;
    }

    private static void nextGoesOnFromThePlace() {
        DUE.sentence("Terms, SUBSCRIBERS", "What is NEXT for one: going on from its PLACE");
        Rows x = new Rows();
        Sample.closeTopics(x, 1, 2, 1);
        Sample.closeTopics(x, 2, 1);
        x.subscribe(1, 0);
        x.subscribe(1, 1);
        for (int due : new int[] {0, 2, 101, NONE, NONE}) {
            DUE.is("next(0), each is told once", x.next(0), due);
        }
        for (int due : new int[] {101, NONE}) {
            DUE.is("next(1), from block 1 on", x.next(1), due);
        }
    }

    private static void nextGoesThroughBlocksThatAreThere() {
        DUE.sentence("Terms, SUBSCRIBERS", "through BLOCKS that are there");
        Rows x = new Rows();
        x.subscribe(1, 0);
        for (int block = 0; block < 39; block++) {
            x.close();
        }
        Sample.closeTopics(x, 2, 1);
        DUE.is("next(0), behind 39 empty blocks", x.next(0), 3901);
        DUE.is("next(0)", x.next(0), NONE);
        Rows y = new Rows();
        y.subscribe(-1, 0);
        Sample.closeMany(y, 32);
        Sample.closeMany(y, 1);
        for (int i = 0; i < 32; i++) {
            DUE.is("next(0)", y.next(0), i);
        }
        DUE.is("next(0), from a full block to the one behind it", y.next(0), 100);
    }

    private static void nextPassesOverWhatIsNotKept() {
        DUE.sentence("Terms, SUBSCRIBERS", "the first EVENT that is KEPT and has its TOPIC");
        Rows x = new Rows();
        x.subscribe(-1, 0);
        Sample.closeTopics(x, 1, 2);
        Sample.closeTopics(x, 1);
        Sample.closeTopics(x, 1);
        DUE.is("next(0)", x.next(0), 0);
        x.prune(0);
        x.prune(1);
        DUE.is("place(0), it stays where it is", x.place(0), 1);
        DUE.is("next(0)", x.next(0), 200);
        x.prune(2);
        DUE.is("next(0), none is kept", x.next(0), NONE);
        DUE.is("place(0)", x.place(0), 300);
    }

    private static void nextLooksAtEachOfTheTopics() {
        DUE.sentence("Terms, SUBSCRIBERS", "the first EVENT that is KEPT and has its TOPIC");
        Rows x = new Rows();
        x.begin(100, false);
        x.tell(0, 8, 9, 10, 0);
        x.tell(0, 7, 7, 7, 0);
        x.end(true);
        x.close();
        for (int number = 0; number < 4; number++) {
            x.subscribe(7 + number, 0);
            DUE.is("next for topic " + (7 + number), x.next(number), number == 0 ? 1 : 0);
            DUE.is("next once more, an event with a topic thrice is one", x.next(number), NONE);
        }
    }

    private static void thePlaceIsBehindWhatWasFound() {
        DUE.sentence("Terms, SUBSCRIBERS", "the PLACE is behind that then");
        Rows x = new Rows();
        x.subscribe(-1, 0);
        Sample.closeMany(x, 2);
        Sample.closeMany(x, 32);
        DUE.is("next(0)", x.next(0), 0);
        DUE.is("place(0)", x.place(0), 1);
        DUE.is("next(0)", x.next(0), 1);
        DUE.is("place(0), behind the last one of the block", x.place(0), 2);
        for (int i = 0; i < 32; i++) {
            DUE.is("next(0)", x.next(0), 100 + i);
            DUE.is("place(0)", x.place(0), 100 + i + 1);
        }
    }

    private static void withoutOneThePlaceIsAtTheBlockToCome() {
        DUE.sentence("Terms, SUBSCRIBERS", "without one it is the beginning of the BLOCK that will be closed next");
        Rows x = new Rows();
        x.subscribe(3, 0);
        DUE.is("next(0), no block is there", x.next(0), NONE);
        DUE.is("place(0)", x.place(0), 0);
        Sample.closeTopics(x, 1, 2);
        x.close();
        DUE.is("next(0)", x.next(0), NONE);
        DUE.is("place(0)", x.place(0), 200);
        Sample.closeTopics(x, 9, 3);
        DUE.is("next(0), in the block that came", x.next(0), 201);
    }

    private static void withoutOneBehindFortyBlocks() {
        DUE.sentence("Terms, SUBSCRIBERS", "without one it is the beginning of the BLOCK that will be closed next");
        Rows x = new Rows();
        x.subscribe(3, 0);
        for (int block = 0; block < 40; block++) {
            x.close();
        }
        DUE.is("next(0)", x.next(0), NONE);
        DUE.is("place(0)", x.place(0), 4000);
        DUE.is("next(0) once more", x.next(0), NONE);
        DUE.is("place(0) stays", x.place(0), 4000);
        x.back(1);
        DUE.is("place(0), one is taken back", x.place(0), 3900);
        Sample.closeTopics(x, 3);
        DUE.is("next(0)", x.next(0), 3900);
    }

    private static void theOpenBlockIsNotLookedAt() {
        DUE.sentence("Terms, SUBSCRIBERS", "through BLOCKS that are there");
        Rows x = new Rows();
        x.subscribe(-1, 0);
        x.begin(100, false);
        Sample.tell(x, 0);
        DUE.is("next(0) in a call", x.next(0), NONE);
        x.end(true);
        DUE.is("next(0), not closed yet", x.next(0), NONE);
        x.close();
        DUE.is("next(0), closed", x.next(0), 0);
    }

    /** Blocks 0, 1, 2 of two events each. */
    private static Rows threeBlocks() {
        Rows x = new Rows();
        for (int block = 0; block < 3; block++) {
            Sample.closeTopics(x, 1, 1);
        }
        return x;
    }

    private static void placesInBlocksThatAreTakenBack() {
        DUE.sentence("Terms, SUBSCRIBERS", "When BLOCKS are taken back, a PLACE in one of these, or further on, is that too");
        // At the beginning of block 1, amid it, behind its last one: all in the first block that goes.
        for (int nexts = 0; nexts <= 2; nexts++) {
            Rows x = threeBlocks();
            x.subscribe(-1, 1);
            for (int times = 0; times < nexts; times++) {
                x.next(0);
            }
            DUE.is("place(0)", x.place(0), 100 + nexts);
            DUE.is("back(2)", x.back(2), 4);
            DUE.is("place(0), it was " + nexts + " into the first that went", x.place(0), 100);
        }
        Rows y = threeBlocks();
        y.subscribe(-1, 2);
        y.next(0);
        y.back(2);
        DUE.is("place(0), in the last that went", y.place(0), 100);
        y.back(1);
        DUE.is("place(0), all are taken back", y.place(0), 0);
    }

    private static void placesFurtherOn() {
        DUE.sentence("Terms, SUBSCRIBERS", "or further on, is that too");
        for (int n = 1; n <= 3; n++) {
            Rows x = threeBlocks();
            x.subscribe(-1, 3);
            x.subscribe(9, 0);
            x.next(1);
            x.back(n);
            DUE.is("place(0) behind back(" + n + "), subscribed to the block to come", x.place(0), 100 * (3 - n));
            DUE.is("place(1) behind back(" + n + "), had come there", x.place(1), 100 * (3 - n));
        }
    }

    private static void placesInBlocksThatStay() {
        DUE.sentence("Terms, SUBSCRIBERS", "When BLOCKS are taken back, a PLACE in one of these");
        for (int nexts = 0; nexts <= 2; nexts++) {
            Rows x = threeBlocks();
            x.subscribe(-1, 1);
            for (int times = 0; times < nexts; times++) {
                x.next(0);
            }
            DUE.is("back(1)", x.back(1), 2);
            DUE.is("place(0), in the last that stays", x.place(0), 100 + nexts);
        }
    }

    private static void backOfNoneMovesNoPlace() {
        DUE.sentence("Terms, SUBSCRIBERS", "When BLOCKS are taken back");
        Rows x = threeBlocks();
        x.subscribe(-1, 2);
        x.next(0);
        x.next(0);
        x.subscribe(-1, 3);
        DUE.is("back(0)", x.back(0), 0);
        DUE.is("place(0)", x.place(0), 202);
        DUE.is("place(1)", x.place(1), 300);
    }

    private static void newBlocksAreToldFromTheirBeginning() {
        DUE.sentence("Terms, SUBSCRIBERS", "a PLACE in one of these, or further on, is that too");
        Rows x = threeBlocks();
        for (int number = 0; number < 4; number++) {
            x.subscribe(1, number);
            x.next(number);
            x.next(number);
        }
        x.back(2);
        Sample.closeTopics(x, 5, 1);
        for (int number = 0; number < 4; number++) {
            DUE.is("next(" + number + ")", x.next(number), 101);
            DUE.is("next(" + number + ") once more", x.next(number), NONE);
        }
    }
}

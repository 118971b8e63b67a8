/** The section 'Terms', CALLS and EVENTS, sentence by sentence. */
public final class TermsOfCallsTest {
    private static final int FULL = -3;
    private static final Due DUE = new Due("TermsOfCallsTest");

    public static void main(String[] args) {
        callsBeginAndEndInTheOpenBlock();
        eightDeep();
        theLesserLimitOfBoth();
        theLimitOfTheOneWithinHolds();
        itMayBeCaught();
        oneUnitToBeginWithinAnother();
        theUnitToBeginIsUsedFirst();
        noUnitToBeginTheFirst();
        unitsOfAnEvent();
        usedAroundWhenItEndsWell();
        usedAroundWhenItIsEndedAsFailed();
        usedAroundWhenAnActUsesTooMuch();
        usedAroundWhenSeveralFail();
        itEndsWell();
        itFailsWhenAnActUsesMoreThanIsLeft();
        theActIsNotDone();
        whatIsLeftStaysUnused();
        eventsSinceItBeganAreNotThere();
        eventsOfOnesWithinThatEndedWellAreNotThere();
        theOneAroundFailsUpToOneThatIsCaught();
        caughtOfTheFirstOneDoesNotMatter();
        theNextOneMayBegin();
        accounts();
        topics();
        values();
        serialsInTheOpenBlock();
        serialsGoOnOverBlocks();
        serialsOfBlocksThatWereTakenBack();
        theHighestSerial();
        DUE.end();
    }

    /** An event with a single topic, of 7 units. */
    private static int tellSeven(Rows x) {
        return x.tell(1, 5, -1, -1, 50);
    }

    private static void callsBeginAndEndInTheOpenBlock() {
        DUE.sentence("Terms, CALLS", "In THE OPEN BLOCK CALLS begin and end");
        Rows x = new Rows();
        for (int block = 0; block < 3; block++) {
            DUE.is("told(3), an open block without calls", x.told(3), 0);
            for (int call = 1; call <= 4; call++) {
                DUE.is("begin, none is open", x.begin(10, false), 1);
                DUE.is("tell, behind what earlier ones told", tellSeven(x), call);
                DUE.is("end(true)", x.end(true), 7);
            }
            DUE.is("close()", x.close(), block);
            DUE.is("size(" + block + ", 0)", x.size(block, 0), 4);
        }
        x.begin(10, false);
        tellSeven(x);
        for (int block = 0; block < 3; block++) {
            DUE.is("size(" + block + ", 0), a call tells nothing there", x.size(block, 0), 4);
        }
    }

    private static void eightDeep() {
        DUE.sentence("Terms, CALLS", "also within each other (8 deep)");
        Rows x = new Rows();
        for (int depth = 1; depth <= 8; depth++) {
            DUE.is("begin, depth " + depth, x.begin(10000, false), depth);
        }
        DUE.is("begin, the ninth", x.begin(10000, false), FULL);
        DUE.is("end(true)", x.end(true), 0);
        DUE.is("begin, the eighth again", x.begin(10000, false), 8);
        DUE.is("begin, the ninth again", x.begin(10000, false), FULL);
    }

    private static void theLesserLimitOfBoth() {
        DUE.sentence("Terms, CALLS", "A CALL has a LIMIT of UNITS, the one within not more than what is left"
                + " of the one around it when it begins (it has the lesser of both)");
        // 7 units of 20 are used by an event and 1 to begin: 12 are left.
        int[][] due = {{0, 0}, {1, 1}, {11, 11}, {12, 12}, {13, 12}, {20, 12}, {10000, 12}};
        for (int[] row : due) {
            Rows x = new Rows();
            x.begin(20, false);
            tellSeven(x);
            x.begin(row[0], false);
            DUE.is("told(2) behind begin(" + row[0] + ") within 12", x.told(2), row[1]);
        }
        Rows y = new Rows();
        for (int depth = 1; depth <= 8; depth++) {
            y.begin(10000, false);
            DUE.is("told(2) at depth " + depth, y.told(2), 10000 - (depth - 1));
        }
    }

    private static void theLimitOfTheOneWithinHolds() {
        DUE.sentence("Terms, CALLS", "A CALL has a LIMIT of UNITS");
        Rows x = new Rows();
        x.begin(1000, false);
        x.begin(7, true);
        DUE.is("tell with all units of the inner one", tellSeven(x), 1);
        DUE.is("told(2)", x.told(2), 0);
        DUE.is("tell, the outer one has many left", tellSeven(x), -21);
        x.begin(6, true);
        DUE.is("tell with a unit too few", tellSeven(x), -21);
        DUE.is("told(2) of the outer one", x.told(2), 1000 - 1 - 7 - 1);
    }

    /** All 256 ways in which eight calls within each other are caught or not. */
    private static void itMayBeCaught() {
        DUE.sentence("Terms, CALLS", "it may be CAUGHT");
        for (int ways = 0; ways < 256; ways++) {
            Rows x = new Rows();
            int innermostCaught = 1;
            for (int depth = 1; depth <= 8; depth++) {
                boolean caught = (ways >> depth - 1 & 1) == 1;
                x.begin(1000, caught);
                tellSeven(x);
                innermostCaught = caught ? depth : innermostCaught;
            }
            DUE.is("end(false), " + ways, x.end(false), -20 - (9 - innermostCaught));
            DUE.is("told(0), those around it are open", x.told(0), innermostCaught - 1);
            DUE.is("told(3), with their events", x.told(3), innermostCaught - 1);
        }
    }

    private static void oneUnitToBeginWithinAnother() {
        DUE.sentence("Terms, CALLS", "To begin one within another one uses 1 UNIT of that");
        Rows x = new Rows();
        x.begin(1, false);
        DUE.is("begin with the last unit", x.begin(10000, false), 2);
        DUE.is("told(2), none is left for it", x.told(2), 0);
        DUE.is("told(1), it has used none itself", x.told(1), 0);
        DUE.is("end(true)", x.end(true), 0);
        DUE.is("told(1) of the one around", x.told(1), 1);
        DUE.is("told(2) of the one around", x.told(2), 0);
        DUE.is("begin without a unit", x.begin(10000, true), -21);
        Rows y = new Rows();
        y.begin(0, false);
        DUE.is("begin(0) within one of no units", y.begin(0, true), -21);
    }

    private static void theUnitToBeginIsUsedFirst() {
        DUE.sentence("Terms, CALLS", "uses 1 UNIT of that, first");
        Rows x = new Rows();
        x.begin(8, false);
        x.begin(8, false);
        DUE.is("told(2), the unit is gone before the limit is set", x.told(2), 7);
        DUE.is("tell with the 7 that are left", tellSeven(x), 1);
        Rows y = new Rows();
        y.begin(7, false);
        y.begin(7, false);
        DUE.is("told(2)", y.told(2), 6);
        DUE.is("tell with the 6 that are left", tellSeven(y), -22);
    }

    private static void noUnitToBeginTheFirst() {
        DUE.sentence("Terms, CALLS", "To begin one within another one uses 1 UNIT of that");
        Rows x = new Rows();
        DUE.is("begin(0) of the first one", x.begin(0, false), 1);
        DUE.is("told(1)", x.told(1), 0);
        DUE.is("end(true)", x.end(true), 0);
        DUE.is("begin(7) behind another", x.begin(7, false), 1);
        DUE.is("told(2)", x.told(2), 7);
        DUE.is("tell with all 7", tellSeven(x), 1);
    }

    private static void unitsOfAnEvent() {
        DUE.sentence("Terms, CALLS", "to tell an EVENT 5, and 2 for each of its TOPICS");
        int[][] topics = {{3, -1, -1}, {3, 4, -1}, {3, 4, 5}, {3, 3, -1}, {3, 3, 3}};
        int[] units = {7, 9, 11, 9, 11};
        for (int k = 0; k < units.length; k++) {
            Rows x = new Rows();
            x.begin(units[k], false);
            DUE.is("tell with " + units[k] + " units", x.tell(0, topics[k][0], topics[k][1], topics[k][2], 0), 1);
            DUE.is("told(1)", x.told(1), units[k]);
            DUE.is("told(2)", x.told(2), 0);
            Rows y = new Rows();
            y.begin(units[k] - 1, false);
            DUE.is("tell with a unit less", y.tell(0, topics[k][0], topics[k][1], topics[k][2], 0), -21);
        }
    }

    private static void usedAroundWhenItEndsWell() {
        DUE.sentence("Terms, CALLS",
                "what a CALL used is used of the one around it, too, when it ends, however it does");
        Rows x = new Rows();
        x.begin(100, false);
        x.begin(50, false);
        x.begin(20, false);
        x.tell(0, 1, 2, -1, 0);
        DUE.is("end(true) of the third", x.end(true), 9);
        DUE.is("told(1) of the second", x.told(1), 10);
        DUE.is("told(2) of the second", x.told(2), 40);
        DUE.is("end(true) of the second", x.end(true), 10);
        DUE.is("told(1) of the first", x.told(1), 11);
        DUE.is("told(2) of the first", x.told(2), 89);
        DUE.is("end(true) of the first", x.end(true), 11);
    }

    private static void usedAroundWhenItIsEndedAsFailed() {
        DUE.sentence("Terms, CALLS",
                "what a CALL used is used of the one around it, too, when it ends, however it does");
        Rows x = new Rows();
        x.begin(100, false);
        x.begin(50, true);
        x.tell(0, 1, 2, -1, 0);
        DUE.is("end(false)", x.end(false), -21);
        DUE.is("told(1) of the one around", x.told(1), 10);
        DUE.is("told(2) of the one around", x.told(2), 90);
    }

    private static void usedAroundWhenAnActUsesTooMuch() {
        DUE.sentence("Terms, CALLS",
                "what a CALL used is used of the one around it, too, when it ends, however it does");
        Rows x = new Rows();
        x.begin(100, false);
        x.begin(10, true);
        tellSeven(x);
        DUE.is("tell with 3 left", tellSeven(x), -21);
        DUE.is("told(1) of the one around", x.told(1), 1 + 7);
        x.begin(8, true);
        tellSeven(x);
        x.begin(5, true);
        DUE.is("begin with none left", x.begin(5, true), -21);
        DUE.is("told(1) of the one around", x.told(1), 7 + 1);
        DUE.is("begin with none left there, too", x.begin(5, true), -21);
        DUE.is("told(1) of the first", x.told(1), 8 + 1 + 8);
    }

    private static void usedAroundWhenSeveralFail() {
        DUE.sentence("Terms, CALLS",
                "what a CALL used is used of the one around it, too, when it ends, however it does");
        Rows x = new Rows();
        x.begin(100, false);
        x.begin(90, true);
        tellSeven(x);
        x.begin(80, false);
        tellSeven(x);
        x.begin(70, false);
        tellSeven(x);
        DUE.is("end(false), three fail", x.end(false), -23);
        DUE.is("told(1) of the first", x.told(1), 3 * (1 + 7));
        DUE.is("told(2) of the first", x.told(2), 76);
    }

    private static void itEndsWell() {
        DUE.sentence("Terms, CALLS", "A CALL ends WELL");
        for (boolean caught : new boolean[] {true, false}) {
            Rows x = new Rows();
            x.begin(100, caught);
            tellSeven(x);
            x.begin(50, caught);
            tellSeven(x);
            DUE.is("end(true) of the one within", x.end(true), 7);
            DUE.is("told(0), the one around is open", x.told(0), 1);
            DUE.is("told(3), both events are there", x.told(3), 2);
            DUE.is("end(true) of the first", x.end(true), 15);
            DUE.is("told(0)", x.told(0), 0);
            DUE.is("told(3), both events are there", x.told(3), 2);
            DUE.is("close()", x.close(), 0);
            DUE.is("size(0, 0)", x.size(0, 0), 2);
        }
    }

    private static void itFailsWhenAnActUsesMoreThanIsLeft() {
        DUE.sentence("Terms, CALLS",
                "or it FAILS: when it is ended so, or when an act would use more than is left of it");
        for (int left : new int[] {0, 1, 6, 7}) {
            Rows x = new Rows();
            x.begin(20, false);
            x.begin(left, true);
            DUE.is("tell with " + left + " left", tellSeven(x), left == 7 ? 1 : -21);
            DUE.is("told(0)", x.told(0), left == 7 ? 2 : 1);
        }
        for (int left : new int[] {0, 1}) {
            Rows x = new Rows();
            x.begin(20, false);
            x.begin(left, true);
            DUE.is("begin with " + left + " left", x.begin(0, true), left == 1 ? 3 : -21);
        }
        Rows y = new Rows();
        y.begin(20, false);
        DUE.is("end(false)", y.end(false), -21);
    }

    private static void theActIsNotDone() {
        DUE.sentence("Terms, CALLS", "the act is not done");
        Rows x = new Rows();
        x.begin(20, false);
        tellSeven(x);
        x.begin(6, true);
        DUE.is("tell", tellSeven(x), -21);
        DUE.is("told(3), it was not told", x.told(3), 1);
        x.begin(0, true);
        DUE.is("begin", x.begin(0, true), -21);
        DUE.is("told(0), none has begun", x.told(0), 1);
    }

    private static void whatIsLeftStaysUnused() {
        DUE.sentence("Terms, CALLS", "what is left stays unused");
        Rows x = new Rows();
        x.begin(21, false);
        x.begin(13, true);
        tellSeven(x);
        DUE.is("told(2), 6 are left", x.told(2), 6);
        DUE.is("tell", tellSeven(x), -21);
        DUE.is("told(1) of the one around", x.told(1), 8);
        DUE.is("told(2) of the one around", x.told(2), 13);
        DUE.is("tell with 11 of the 13 that are left", x.tell(0, 1, 2, 3, 0), 1);
    }

    private static void eventsSinceItBeganAreNotThere() {
        DUE.sentence("Terms, CALLS", "then all EVENTS that were told since it began are not there");
        Rows x = new Rows();
        x.begin(100, false);
        x.tell(0, 1, -1, -1, 11);
        x.end(true);
        x.begin(100, false);
        x.tell(0, 2, -1, -1, 12);
        x.begin(100, true);
        x.tell(0, 3, -1, -1, 13);
        x.tell(0, 4, -1, -1, 14);
        DUE.is("end(false)", x.end(false), -21);
        DUE.is("told(3), those before it are there", x.told(3), 2);
        DUE.is("told(4)", x.told(4), 2);
        DUE.is("tell goes on behind them", x.tell(0, 5, -1, -1, 15), 3);
        x.end(true);
        x.close();
        for (int i = 0; i < 3; i++) {
            DUE.is("event(0, " + i + ", 2)", x.event(0, i, 2), new int[] {1, 2, 5}[i]);
            DUE.is("value(0, " + i + ")", x.value(0, i), new int[] {11, 12, 15}[i]);
            DUE.is("event(0, " + i + ", 5)", x.event(0, i, 5), i);
        }
        DUE.is("size(0, 0)", x.size(0, 0), 3);
        DUE.is("find(0, 3, 0)", x.find(0, 3, 0), -5);
    }

    private static void eventsOfOnesWithinThatEndedWellAreNotThere() {
        DUE.sentence("Terms, CALLS", "then all EVENTS that were told since it began are not there");
        Rows x = new Rows();
        x.begin(100, false);
        tellSeven(x);
        x.begin(90, true);
        x.begin(50, false);
        tellSeven(x);
        x.end(true);
        DUE.is("told(3), the one within ended well", x.told(3), 2);
        DUE.is("end(false)", x.end(false), -21);
        DUE.is("told(3)", x.told(3), 1);
        DUE.is("end(false) of the first", x.end(false), -21);
        DUE.is("told(3), the block is empty", x.told(3), 0);
    }

    private static void theOneAroundFailsUpToOneThatIsCaught() {
        DUE.sentence("Terms, CALLS", "and the one around it FAILS, too, if it was not CAUGHT, and so on");
        for (int caught = 2; caught <= 8; caught++) {
            Rows x = new Rows();
            for (int depth = 1; depth <= 8; depth++) {
                x.begin(1000, depth == caught);
                tellSeven(x);
            }
            DUE.is("end(false), number " + caught + " is caught", x.end(false), -20 - (9 - caught));
            DUE.is("told(0)", x.told(0), caught - 1);
            DUE.is("told(3)", x.told(3), caught - 1);
        }
        Rows y = new Rows();
        for (int depth = 1; depth <= 8; depth++) {
            y.begin(1000, true);
        }
        for (int depth = 8; depth >= 1; depth--) {
            DUE.is("end(false), all are caught", y.end(false), -21);
            DUE.is("told(0)", y.told(0), depth - 1);
        }
    }

    private static void caughtOfTheFirstOneDoesNotMatter() {
        DUE.sentence("Terms, CALLS", "and the one around it FAILS, too, if it was not CAUGHT, and so on");
        for (boolean caught : new boolean[] {true, false}) {
            Rows x = new Rows();
            for (int depth = 1; depth <= 8; depth++) {
                x.begin(1000, caught && depth == 1);
            }
            DUE.is("end(false), all eight fail", x.end(false), -28);
            DUE.is("told(0)", x.told(0), 0);
        }
    }

    private static void theNextOneMayBegin() {
        DUE.sentence("Terms, CALLS", "(When the first one of all FAILS, the next one may begin.)");
        Rows x = new Rows();
        x.begin(7, false);
        tellSeven(x);
        x.end(true);
        for (int times = 0; times < 3; times++) {
            DUE.is("begin", x.begin(7, false), 1);
            DUE.is("told(1), nothing of the one that failed", x.told(1), 0);
            DUE.is("told(2)", x.told(2), 7);
            DUE.is("tell", tellSeven(x), 2);
            DUE.is("tell, too much", tellSeven(x), -21);
            DUE.is("told(3), an earlier one's event stays", x.told(3), 1);
        }
        DUE.is("close(), no call is open", x.close(), 0);
    }

    private static void accounts() {
        DUE.sentence("Terms, EVENTS", "EVENTS have an ACCOUNT (0 .. 9)");
        Rows x = new Rows();
        x.begin(1000, false);
        for (int account = 0; account <= 9; account++) {
            DUE.is("tell, account " + account, x.tell(account, 1, -1, -1, 0), account + 1);
        }
        x.end(true);
        x.close();
        for (int account = 0; account <= 9; account++) {
            DUE.is("event(0, " + account + ", 0)", x.event(0, account, 0), account);
        }
    }

    private static void topics() {
        DUE.sentence("Terms, EVENTS", "one to three TOPICS (0 .. 999)");
        int[][] rows = {{0, -1, -1}, {999, -1, -1}, {0, 999, -1}, {999, 0, -1}, {0, 0, 0}, {999, 999, 999}, {1, 0, 999}};
        Rows x = new Rows();
        x.begin(1000, false);
        for (int i = 0; i < rows.length; i++) {
            DUE.is("tell, row " + i, x.tell(0, rows[i][0], rows[i][1], rows[i][2], 0), i + 1);
        }
        x.end(true);
        x.close();
        for (int i = 0; i < rows.length; i++) {
            for (int k = 0; k < 3; k++) {
                int due = rows[i][k] == -1 ? -5 : rows[i][k];
                DUE.is("event(0, " + i + ", " + (2 + k) + ")", x.event(0, i, 2 + k), due);
            }
        }
    }

    private static void values() {
        DUE.sentence("Terms, EVENTS", "a VALUE (a long)");
        long[] values = {Long.MIN_VALUE, Long.MAX_VALUE, -1, 0, 1, 1L << 32, Integer.MIN_VALUE, Integer.MAX_VALUE};
        Rows x = new Rows();
        x.begin(1000, false);
        for (long value : values) {
            x.tell(0, 0, -1, -1, value);
        }
        x.end(true);
        x.close();
        for (int i = 0; i < values.length; i++) {
            DUE.is("value(0, " + i + ")", x.value(0, i), values[i]);
        }
    }

    private static void serialsInTheOpenBlock() {
        DUE.sentence("Terms, EVENTS", "a SERIAL: how many EVENTS there are in THE OPEN BLOCK before it");
        Rows x = new Rows();
        DUE.is("told(4), of the very first", x.told(4), 0);
        x.begin(100, false);
        tellSeven(x);
        x.begin(50, true);
        tellSeven(x);
        DUE.is("told(4)", x.told(4), 2);
        x.end(false);
        DUE.is("told(4), one that is not there does not count", x.told(4), 1);
        tellSeven(x);
        x.end(true);
        x.close();
        DUE.is("event(0, 0, 5)", x.event(0, 0, 5), 0);
        DUE.is("event(0, 1, 5)", x.event(0, 1, 5), 1);
    }

    private static void serialsGoOnOverBlocks() {
        DUE.sentence("Terms, EVENTS", "and were in all BLOCKS when they were closed");
        Rows x = new Rows();
        Sample.closeMany(x, 3);
        x.close();
        DUE.is("told(4), an empty block adds none", x.told(4), 3);
        Sample.closeMany(x, 32);
        DUE.is("event(2, 0, 5)", x.event(2, 0, 5), 3);
        DUE.is("event(2, 31, 5)", x.event(2, 31, 5), 34);
        x.prune(0);
        x.prune(2);
        DUE.is("told(4), pruned ones count as they were closed", x.told(4), 35);
        Sample.closeMany(x, 1);
        DUE.is("event(3, 0, 5)", x.event(3, 0, 5), 35);
    }

    private static void serialsOfBlocksThatWereTakenBack() {
        DUE.sentence("Terms, EVENTS", "also those that were taken back");
        Rows x = new Rows();
        Sample.closeMany(x, 3);
        Sample.closeMany(x, 2);
        Sample.closeMany(x, 4);
        x.prune(2);
        Sample.tellMany(x, 1);
        DUE.is("told(4)", x.told(4), 10);
        DUE.is("back(3)", x.back(3), 5);
        DUE.is("told(4) stays", x.told(4), 10);
        Sample.tellMany(x, 1);
        x.close();
        DUE.is("event(0, 0, 5), told before the others went", x.event(0, 0, 5), 9);
        DUE.is("event(0, 1, 5)", x.event(0, 1, 5), 10);
        DUE.is("told(4)", x.told(4), 11);
    }

    /** 512 calls do not reach a serial that wraps around; this is about the highest that they reach. */
    private static void theHighestSerial() {
        DUE.sentence("Terms, EVENTS", "also those that were taken back");
        Rows x = new Rows();
        for (int block = 0; block < 12; block++) {
            Sample.closeMany(x, 32);
        }
        DUE.is("event(11, 31, 5)", x.event(11, 31, 5), 383);
        DUE.is("back(12)", x.back(12), 384);
        DUE.is("told(4)", x.told(4), 384);
        Sample.closeMany(x, 32);
        DUE.is("event(0, 0, 5)", x.event(0, 0, 5), 384);
        DUE.is("event(0, 31, 5)", x.event(0, 31, 5), 415);
    }
}

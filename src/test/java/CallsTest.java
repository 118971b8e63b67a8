/** Promises 1 to 5, sentence by sentence: a new object, begin, tell, end, told. */
public final class CallsTest {
    private static final int BAD = -1, STATE = -2, FULL = -3;
    private static final int MIN = Integer.MIN_VALUE, MAX = Integer.MAX_VALUE;
    private static final Class<ArrayIndexOutOfBoundsException> INDEX = ArrayIndexOutOfBoundsException.class;
    private static final Due DUE = new Due("CallsTest");

    public static void main(String[] args) {
        aNewObjectHasNoBlocks();
        aNewObjectHasNoCall();
        aNewObjectHasNoSubscribers();
        aNewObjectSharesNothing();
        beginTakesLimits();
        beginRefusesOtherLimits();
        beginIsCaughtOrNot();
        beginTellsHowDeep();
        beginFailsForWantOfAUnit();
        beginFailsUpToOneThatIsCaught();
        beginIsFull();
        tellTellsHowManyThereAre();
        tellFails();
        tellFailsUpToOneThatIsCaught();
        tellTakesOneToThreeTopics();
        tellRefusesAThirdTopicWithoutASecond();
        tellRefusesAccounts();
        tellRefusesTopics();
        tellNeedsACall();
        tellIsFull();
        tellIsFullAheadOfUnits();
        tellHasRoomAgain();
        endWellTellsWhatItUsed();
        endFailingTellsHowManyFailed();
        endNeedsACall();
        toldHowManyCalls();
        toldUnitsUsedAndLeft();
        toldUnitsWithoutACall();
        toldHowManyEvents();
        toldTheNextSerial();
        toldHowManyBlocks();
        toldHowManySubscribers();
        toldRefusesOtherNumbers();
        DUE.end();
    }

    private static int tellSeven(Rows x) {
        return x.tell(1, 5, -1, -1, 50);
    }

    /** So many calls within each other, the innermost one with just so many units, number 'caught' of them caught. */
    private static Rows within(int depth, int units, int caught) {
        Rows x = new Rows();
        for (int number = 1; number <= depth; number++) {
            x.begin(units + depth - 1, number == caught);
        }
        return x;
    }

    // ---- promise 1

    private static void aNewObjectHasNoBlocks() {
        DUE.sentence("promise 1", "No BLOCKS");
        Rows x = new Rows();
        DUE.is("told(5)", x.told(5), 0);
        DUE.is("size(0, 0)", x.size(0, 0), BAD);
        DUE.is("prune(0)", x.prune(0), BAD);
        DUE.is("event(0, 0, 0)", x.event(0, 0, 0), BAD);
        DUE.is("may(0, 0)", x.may(0, 0), BAD);
        DUE.is("find(0, 0, 0)", x.find(0, 0, 0), BAD);
        DUE.is("path(0, 0)", x.path(0, 0), BAD);
        DUE.is("proved(0, 0, ..)", x.proved(0, 0, 0, 0, -1, -1, 0), BAD);
        DUE.isThrown("value(0, 0)", INDEX, () -> x.value(0, 0));
        DUE.isThrown("root(0)", INDEX, () -> x.root(0));
        DUE.isThrown("filter(0)", INDEX, () -> x.filter(0));
        DUE.is("back(0)", x.back(0), 0);
        DUE.is("back(1)", x.back(1), BAD);
        DUE.is("told(3), nothing in the open block", x.told(3), 0);
        DUE.is("told(4)", x.told(4), 0);
        DUE.is("close(), the first one", x.close(), 0);
        DUE.is("size(0, 0) of the first one", x.size(0, 0), 0);
    }

    private static void aNewObjectHasNoCall() {
        DUE.sentence("promise 1", "no CALL");
        Rows x = new Rows();
        for (int what = 0; what <= 2; what++) {
            DUE.is("told(" + what + ")", x.told(what), 0);
        }
        DUE.is("end(true)", x.end(true), STATE);
        DUE.is("tell", tellSeven(x), STATE);
        DUE.is("begin, the first one", x.begin(0, false), 1);
    }

    private static void aNewObjectHasNoSubscribers() {
        DUE.sentence("promise 1", "no SUBSCRIBERS");
        Rows x = new Rows();
        DUE.is("told(6)", x.told(6), 0);
        DUE.is("next(0)", x.next(0), BAD);
        DUE.is("place(0)", x.place(0), BAD);
        DUE.is("subscribe, the first one", x.subscribe(0, 0), 0);
    }

    private static void aNewObjectSharesNothing() {
        DUE.sentence("promise 1", "No BLOCKS, no CALL, no SUBSCRIBERS.");
        Rows other = new Rows();
        States.inCalls(other);
        Rows x = new Rows();
        for (int what = 0; what <= 6; what++) {
            DUE.is("told(" + what + ") beside another object", x.told(what), 0);
        }
        DUE.is("wipe()", x.wipe(), 0);
        DUE.isThrown("out(0)", INDEX, () -> x.out(0));
        States.rich(x);
        Rows alone = new Rows();
        States.inCalls(alone);
        if (!Shown.by(other, true).equals(Shown.by(alone, true))) {
            DUE.report("an object shows what was done with another one");
        }
    }

    // ---- promise 2

    private static void beginTakesLimits() {
        DUE.sentence("promise 2", "A CALL begins, with a LIMIT (0 .. 10000)");
        for (int limit : new int[] {0, 1, 9999, 10000}) {
            Rows x = new Rows();
            DUE.is("begin(" + limit + ", false)", x.begin(limit, false), 1);
            DUE.is("told(2)", x.told(2), limit);
            Rows y = new Rows();
            y.begin(5, false);
            DUE.is("begin(" + limit + ", true) within another", y.begin(limit, true), 2);
        }
    }

    private static void beginRefusesOtherLimits() {
        DUE.sentence("promise 2", "with a LIMIT (0 .. 10000)");
        for (int limit : new int[] {-1, 10001, MIN, MAX}) {
            for (boolean caught : new boolean[] {true, false}) {
                String call = "begin(" + limit + ", " + caught + ")";
                DUE.refuses(States::fresh, call, BAD, x -> x.begin(limit, caught));
                DUE.refuses(States::inCalls, call + " in calls", BAD, x -> x.begin(limit, caught));
            }
        }
    }

    private static void beginIsCaughtOrNot() {
        DUE.sentence("promise 2", "CAUGHT or not");
        for (boolean caught : new boolean[] {true, false}) {
            Rows x = new Rows();
            x.begin(10, false);
            x.begin(5, caught);
            DUE.is("end(false) behind begin(5, " + caught + ")", x.end(false), caught ? -21 : -22);
            DUE.is("told(0)", x.told(0), caught ? 1 : 0);
        }
    }

    private static void beginTellsHowDeep() {
        DUE.sentence("promise 2", "how deep it is, 1 and more");
        Rows x = new Rows();
        for (int depth = 1; depth <= 8; depth++) {
            DUE.is("begin", x.begin(100, false), depth);
        }
        for (int depth = 8; depth >= 1; depth--) {
            x.end(true);
            DUE.is("begin in the place of one that ended", x.begin(1, false), depth);
            x.end(true);
        }
    }

    private static void beginFailsForWantOfAUnit() {
        DUE.sentence("promise 2", "-20 less how many CALLS FAILED by this (for want of a UNIT)");
        for (int depth = 1; depth <= 7; depth++) {
            Rows x = within(depth, 0, 0);
            DUE.is("told(0)", x.told(0), depth);
            DUE.is("begin, all " + depth + " fail", x.begin(0, true), -20 - depth);
            DUE.is("told(0)", x.told(0), 0);
            DUE.is("begin with a unit, " + depth + " are open", within(depth, 1, 0).begin(0, true), depth + 1);
        }
    }

    private static void beginFailsUpToOneThatIsCaught() {
        DUE.sentence("promise 2", "-20 less how many CALLS FAILED by this (for want of a UNIT)");
        for (int caught = 2; caught <= 7; caught++) {
            Rows x = within(7, 0, caught);
            DUE.is("begin, number " + caught + " is caught", x.begin(10000, true), -20 - (8 - caught));
            DUE.is("told(0)", x.told(0), caught - 1);
        }
    }

    private static void beginIsFull() {
        DUE.sentence("promise 2", "FULL: 8 are open.");
        DUE.is("begin, 7 are open", within(7, 1, 0).begin(0, false), 8);
        for (int limit : new int[] {0, 1, 10000}) {
            String call = "begin(" + limit + ", true), 8 are open";
            DUE.refuses(States::eightCalls, call, FULL, x -> x.begin(limit, true));
            DUE.refuses(States::eightCallsWithoutUnits, call + " without a unit", FULL, x -> x.begin(limit, true));
        }
    }

    // ---- promise 3

    private static void tellTellsHowManyThereAre() {
        DUE.sentence("promise 3", "An EVENT is told by the innermost CALL: how many THE OPEN BLOCK has");
        Rows x = new Rows();
        for (int call = 0; call < 8; call++) {
            x.begin(1000, false);
            for (int k = 1; k <= 4; k++) {
                DUE.is("tell", tellSeven(x), 4 * call + k);
            }
            DUE.is("told(1), the innermost one's units", x.told(1), 28);
        }
        DUE.is("told(3)", x.told(3), 32);
    }

    private static void tellFails() {
        DUE.sentence("promise 3", "-20 less how many CALLS FAILED by this");
        for (int depth = 1; depth <= 8; depth++) {
            Rows x = within(depth, 6, 0);
            DUE.is("tell with 6 units, all " + depth + " fail", tellSeven(x), -20 - depth);
            DUE.is("told(0)", x.told(0), 0);
            DUE.is("told(3)", x.told(3), 0);
            DUE.is("tell with 7 units, " + depth + " deep", tellSeven(within(depth, 7, 0)), 1);
        }
    }

    private static void tellFailsUpToOneThatIsCaught() {
        DUE.sentence("promise 3", "-20 less how many CALLS FAILED by this");
        for (int caught = 2; caught <= 8; caught++) {
            Rows x = within(8, 6, caught);
            DUE.is("tell, number " + caught + " is caught", tellSeven(x), -20 - (9 - caught));
            DUE.is("told(0)", x.told(0), caught - 1);
        }
    }

    private static void tellTakesOneToThreeTopics() {
        DUE.sentence("promise 3", "b, c: -1 for none");
        Rows x = new Rows();
        x.begin(100, false);
        DUE.is("tell, b and c none", x.tell(0, 5, -1, -1, 0), 1);
        DUE.is("tell, c none", x.tell(0, 5, 0, -1, 0), 2);
        DUE.is("tell, none of them none", x.tell(0, 5, 0, 0, 0), 3);
        x.end(true);
        x.close();
        for (int i = 0; i < 3; i++) {
            DUE.is("event(0, " + i + ", 1)", x.event(0, i, 1), i + 1);
        }
    }

    private static void tellRefusesAThirdTopicWithoutASecond() {
        DUE.sentence("promise 3", "(c none, if b is)");
        for (int c : new int[] {0, 1, 5, 999, -2, 1000, MIN, MAX}) {
            DUE.refuses(States::inCalls, "tell, b none and c " + c, BAD, x -> x.tell(0, 5, -1, c, 0));
        }
    }

    private static void tellRefusesAccounts() {
        DUE.sentence("promise 3 with Terms, EVENTS", "EVENTS have an ACCOUNT (0 .. 9)");
        for (int account : new int[] {-1, 10, MIN, MAX}) {
            DUE.refuses(States::inCalls, "tell, account " + account, BAD, x -> x.tell(account, 5, -1, -1, 0));
        }
    }

    private static void tellRefusesTopics() {
        DUE.sentence("promise 3 with Terms, EVENTS", "one to three TOPICS (0 .. 999)");
        for (int topic : new int[] {-2, 1000, MIN, MAX}) {
            DUE.refuses(States::inCalls, "tell, a " + topic, BAD, x -> x.tell(0, topic, -1, -1, 0));
            DUE.refuses(States::inCalls, "tell, b " + topic, BAD, x -> x.tell(0, 5, topic, -1, 0));
            DUE.refuses(States::inCalls, "tell, b " + topic + " with a c", BAD, x -> x.tell(0, 5, topic, 6, 0));
            DUE.refuses(States::inCalls, "tell, c " + topic, BAD, x -> x.tell(0, 5, 6, topic, 0));
        }
        DUE.refuses(States::inCalls, "tell, a none", BAD, x -> x.tell(0, -1, -1, -1, 0));
        DUE.refuses(States::inCalls, "tell, a none, b not", BAD, x -> x.tell(0, -1, 5, -1, 0));
        DUE.refuses(States::inCalls, "tell, a none, b and c not", BAD, x -> x.tell(0, -1, 5, 6, 0));
    }

    private static void tellNeedsACall() {
        DUE.sentence("promise 3", "STATE: no CALL is open");
        DUE.refuses(States::fresh, "tell on a new object", STATE, CallsTest::tellSeven);
        DUE.refuses(States::rich, "tell, all calls have ended", STATE, CallsTest::tellSeven);
        Rows x = within(8, 0, 0);
        x.end(false);
        DUE.is("tell, all calls have failed", tellSeven(x), STATE);
    }

    private static void tellIsFull() {
        DUE.sentence("promise 3", "FULL: there are 32");
        Rows x = new Rows();
        x.begin(10000, false);
        for (int i = 1; i <= 32; i++) {
            DUE.is("tell", tellSeven(x), i);
        }
        DUE.is("tell, there are 32", tellSeven(x), FULL);
        DUE.refuses(States::fullOpenBlock, "tell, there are 32", FULL, CallsTest::tellSeven);
    }

    private static void tellIsFullAheadOfUnits() {
        DUE.sentence("promise 3", "FULL: there are 32 (ahead of UNITS)");
        DUE.refuses(States::fullOpenBlockWithoutUnits, "tell, 6 units are left", FULL, CallsTest::tellSeven);
        Rows x = new Rows();
        x.begin(32 * 7, false);
        for (int i = 0; i < 32; i++) {
            tellSeven(x);
        }
        DUE.is("told(2)", x.told(2), 0);
        DUE.is("tell, no unit is left", tellSeven(x), FULL);
        DUE.is("told(0), it has not failed", x.told(0), 1);
        DUE.is("end(true)", x.end(true), 224);
    }

    private static void tellHasRoomAgain() {
        DUE.sentence("promise 3", "FULL: there are 32");
        Rows x = new Rows();
        x.begin(10000, false);
        for (int i = 0; i < 31; i++) {
            tellSeven(x);
        }
        x.begin(50, true);
        DUE.is("tell, the last there is room for", tellSeven(x), 32);
        DUE.is("tell, there are 32", tellSeven(x), FULL);
        DUE.is("end(false)", x.end(false), -21);
        DUE.is("tell, there are 31 again", tellSeven(x), 32);
        x.end(true);
        x.close();
        x.begin(7, false);
        DUE.is("tell, a new open block", tellSeven(x), 1);
    }

    // ---- promise 4

    private static void endWellTellsWhatItUsed() {
        DUE.sentence("promise 4", "The innermost CALL ends WELL: what it used");
        Rows x = new Rows();
        x.begin(100, true);
        DUE.is("end(true), nothing used", x.end(true), 0);
        x.begin(16, false);
        x.begin(7, true);
        tellSeven(x);
        DUE.is("end(true), all units used", x.end(true), 7);
        DUE.is("told(0)", x.told(0), 1);
        DUE.is("told(3), the event stays", x.told(3), 1);
        x.begin(7, true);
        tellSeven(x);
        DUE.is("end(true)", x.end(true), 7);
        DUE.is("end(true) of the one around, all units used", x.end(true), 16);
        DUE.is("told(3)", x.told(3), 2);
        DUE.is("told(0)", x.told(0), 0);
    }

    private static void endFailingTellsHowManyFailed() {
        DUE.sentence("promise 4", "or FAILS: -20 less how many CALLS FAILED by this");
        for (int depth = 1; depth <= 8; depth++) {
            Rows x = within(depth, 100, 0);
            DUE.is("end(false), all " + depth + " fail", x.end(false), -20 - depth);
            DUE.is("told(0)", x.told(0), 0);
            Rows y = within(depth, 100, depth);
            DUE.is("end(false), the innermost is caught", y.end(false), -21);
            DUE.is("told(0)", y.told(0), depth - 1);
        }
    }

    private static void endNeedsACall() {
        DUE.sentence("promise 4", "STATE: none is open.");
        for (boolean well : new boolean[] {true, false}) {
            String call = "end(" + well + ")";
            DUE.refuses(States::fresh, call + " on a new object", STATE, x -> x.end(well));
            DUE.refuses(States::rich, call + ", all have ended", STATE, x -> x.end(well));
            DUE.refuses(States::fortyBlocks, call + ", blocks are full", STATE, x -> x.end(well));
            Rows y = within(8, 0, 0);
            y.end(false);
            DUE.is(call + ", all have failed", y.end(well), STATE);
        }
    }

    // ---- promise 5

    private static void toldHowManyCalls() {
        DUE.sentence("promise 5", "0 how many CALLS are open");
        Rows x = new Rows();
        for (int depth = 0; depth <= 8; depth++) {
            DUE.is("told(0)", x.told(0), depth);
            x.begin(100, depth == 4);
        }
        DUE.is("told(0), a ninth was refused", x.told(0), 8);
        x.end(true);
        DUE.is("told(0), one has ended", x.told(0), 7);
        x.end(false);
        DUE.is("told(0), three have failed", x.told(0), 4);
    }

    private static void toldUnitsUsedAndLeft() {
        DUE.sentence("promise 5", "1 UNITS used by the innermost one, 2 left of it");
        Rows x = new Rows();
        x.begin(10000, false);
        DUE.is("told(1)", x.told(1), 0);
        DUE.is("told(2)", x.told(2), 10000);
        tellSeven(x);
        x.begin(7, false);
        DUE.is("told(1), of the innermost", x.told(1), 0);
        DUE.is("told(2), of the innermost", x.told(2), 7);
        tellSeven(x);
        DUE.is("told(1), all used", x.told(1), 7);
        DUE.is("told(2), all used", x.told(2), 0);
        x.end(true);
        DUE.is("told(1), of the one around", x.told(1), 15);
        DUE.is("told(2), of the one around", x.told(2), 9985);
    }

    private static void toldUnitsWithoutACall() {
        DUE.sentence("promise 5", "2 left of it (0 without)");
        Rows x = new Rows();
        DUE.is("told(1) on a new object", x.told(1), 0);
        DUE.is("told(2) on a new object", x.told(2), 0);
        x.begin(100, false);
        tellSeven(x);
        x.end(true);
        DUE.is("told(1), it has ended", x.told(1), 0);
        DUE.is("told(2), it has ended", x.told(2), 0);
        x.begin(100, false);
        tellSeven(x);
        x.end(false);
        DUE.is("told(1), it has failed", x.told(1), 0);
        DUE.is("told(2), it has failed", x.told(2), 0);
    }

    private static void toldHowManyEvents() {
        DUE.sentence("promise 5", "3 EVENTS of THE OPEN BLOCK");
        Rows x = new Rows();
        Sample.closeMany(x, 3);
        x.begin(10000, false);
        for (int many = 0; many <= 32; many++) {
            DUE.is("told(3)", x.told(3), many);
            tellSeven(x);
        }
        DUE.is("told(3), one more was refused", x.told(3), 32);
        x.end(true);
        x.close();
        DUE.is("told(3), a new one", x.told(3), 0);
    }

    private static void toldTheNextSerial() {
        DUE.sentence("promise 5", "4 the SERIAL that the next EVENT gets");
        Rows x = new Rows();
        Sample.closeMany(x, 32);
        x.close();
        x.begin(100, false);
        DUE.is("told(4)", x.told(4), 32);
        tellSeven(x);
        DUE.is("told(4)", x.told(4), 33);
        x.end(false);
        DUE.is("told(4), the event is not there", x.told(4), 32);
        x.back(2);
        DUE.is("told(4), the blocks are not there", x.told(4), 32);
        Sample.closeMany(x, 1);
        DUE.is("event(0, 0, 5), it gets it", x.event(0, 0, 5), 32);
    }

    private static void toldHowManyBlocks() {
        DUE.sentence("promise 5", "5 BLOCKS");
        Rows x = new Rows();
        for (int many = 0; many <= 40; many++) {
            DUE.is("told(5)", x.told(5), many);
            x.close();
        }
        DUE.is("told(5), one more was refused", x.told(5), 40);
        x.prune(0);
        DUE.is("told(5), a pruned one counts", x.told(5), 40);
        x.back(1);
        DUE.is("told(5), one is taken back", x.told(5), 39);
        x.back(39);
        DUE.is("told(5), all are taken back", x.told(5), 0);
    }

    private static void toldHowManySubscribers() {
        DUE.sentence("promise 5", "6 SUBSCRIBERS");
        Rows x = new Rows();
        x.close();
        for (int many = 0; many <= 8; many++) {
            DUE.is("told(6)", x.told(6), many);
            x.subscribe(-1, 1);
        }
        DUE.is("told(6), one more was refused", x.told(6), 8);
        x.back(1);
        DUE.is("told(6), they stay when blocks are taken back", x.told(6), 8);
    }

    private static void toldRefusesOtherNumbers() {
        DUE.sentence("promise 5", "BAD.");
        for (int what : new int[] {-1, 7, MIN, MAX}) {
            DUE.refuses(States::inCalls, "told(" + what + ")", BAD, x -> x.told(what));
            DUE.refuses(States::fresh, "told(" + what + ") of a new object", BAD, x -> x.told(what));
        }
    }
}

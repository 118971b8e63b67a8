/** Promises 1 to 5: a new object, begin, tell, end, told. */
public final class CallsTest {
    private static final int MIN = Integer.MIN_VALUE;
    private static final int MAX = Integer.MAX_VALUE;
    private static final Due DUE = new Due("CallsTest");

    public static void main(String[] args) {
        aNewObject();
        beginTellsHowDeep();
        beginUsesAUnitFirst();
        beginRefuses();
        beginFailsForWantOfAUnit();
        tellUsesUnits();
        tellRefuses();
        tellIsFullAheadOfUnits();
        tellFailsUpToOneThatIsCaught();
        endWell();
        endFailing();
        whatACallUsedIsUsedAround();
        told();
        DUE.end();
    }

    private static void aNewObject() {
        EventRows x = new EventRows();
        for (int what = 0; what <= 6; what++) {
            DUE.is("new: told(" + what + ")", x.told(what), 0);
        }
        DUE.is("new: size(0, 0)", x.size(0, 0), -1);
        DUE.is("new: end(true)", x.end(true), -2);
        DUE.is("new: next(0)", x.next(0), -1);
        DUE.is("new: place(0)", x.place(0), -1);
        DUE.is("new: wipe()", x.wipe(), 0);
        DUE.isThrown("new: root(0)", ArrayIndexOutOfBoundsException.class, () -> x.root(0));
        EventRows other = new EventRows();
        other.begin(10, true);
        DUE.is("objects share nothing: told(0)", x.told(0), 0);
    }

    private static void beginTellsHowDeep() {
        EventRows x = new EventRows();
        DUE.is("begin(10000, false)", x.begin(10000, false), 1);
        DUE.is("told(2) of 10000", x.told(2), 10000);
        for (int depth = 2; depth <= 8; depth++) {
            DUE.is("begin, depth " + depth, x.begin(10000, depth % 2 == 0), depth);
            DUE.is("told(2) at depth " + depth, x.told(2), 10000 - (depth - 1));
        }
        EventRows y = new EventRows();
        DUE.is("begin(0, true)", y.begin(0, true), 1);
        DUE.is("told(2) of 0", y.told(2), 0);
    }

    private static void beginUsesAUnitFirst() {
        EventRows x = new EventRows();
        x.begin(10, false);
        DUE.is("begin(10, true) within 10", x.begin(10, true), 2);
        DUE.is("told(2), a unit less than around it", x.told(2), 9);
        DUE.is("told(1), nothing used yet", x.told(1), 0);
        DUE.is("end(true)", x.end(true), 0);
        DUE.is("told(1) of the one around", x.told(1), 1);
        DUE.is("begin(8, true) within 9 left", x.begin(8, true), 2);
        DUE.is("told(2), just what is left", x.told(2), 8);
        x.end(true);
        DUE.is("begin(3, true) within 8 left", x.begin(3, true), 2);
        DUE.is("told(2), the lesser limit", x.told(2), 3);
        EventRows y = new EventRows();
        y.begin(1, false);
        DUE.is("begin with the last unit", y.begin(7, false), 2);
        DUE.is("told(2), nothing is left for it", y.told(2), 0);
    }

    private static void beginRefuses() {
        EventRows x = new EventRows();
        for (int limit : new int[] {-1, MIN, 10001, MAX}) {
            DUE.is("begin(" + limit + ", false)", x.begin(limit, false), -1);
        }
        DUE.is("told(0) after refusals", x.told(0), 0);
        for (int depth = 1; depth <= 8; depth++) {
            x.begin(8 - depth, true);
        }
        DUE.is("begin(0, true), 8 are open and no unit is left", x.begin(0, true), -3);
        DUE.is("begin(-1, true), BAD is ahead of FULL", x.begin(-1, true), -1);
        DUE.is("told(0) after FULL", x.told(0), 8);
        DUE.is("told(1) after FULL", x.told(1), 0);
    }

    private static void beginFailsForWantOfAUnit() {
        EventRows x = new EventRows();
        x.begin(0, true);
        DUE.is("begin(1, true) within 0, the first one fails", x.begin(1, true), -21);
        DUE.is("told(0)", x.told(0), 0);
        x.begin(30, false);
        x.tell(1, 1, -1, -1, 1);
        x.begin(30, true);
        x.tell(1, 1, -1, -1, 1);
        x.begin(0, false);
        DUE.is("begin(-1, true) without a unit, BAD is first", x.begin(-1, true), -1);
        DUE.is("begin(5, true) two fail, the second is caught", x.begin(5, true), -22);
        DUE.is("told(0)", x.told(0), 1);
        DUE.is("told(1): 7, 1 to begin, 7 and 1 within", x.told(1), 16);
        DUE.is("told(3): only the first one's event", x.told(3), 1);
    }

    private static void tellUsesUnits() {
        EventRows x = new EventRows();
        x.begin(27, false);
        DUE.is("tell with a topic", x.tell(0, 0, -1, -1, 0), 1);
        DUE.is("told(1)", x.told(1), 7);
        DUE.is("tell with two topics", x.tell(9, 999, 999, -1, Long.MIN_VALUE), 2);
        DUE.is("told(1)", x.told(1), 16);
        DUE.is("tell with three topics, just what is left", x.tell(5, 1, 2, 3, Long.MAX_VALUE), 3);
        DUE.is("told(1)", x.told(1), 27);
        DUE.is("told(2)", x.told(2), 0);
        DUE.is("end(true)", x.end(true), 27);
        x.begin(10, false);
        DUE.is("tell goes on in the open block", x.tell(0, 0, -1, -1, 0), 4);
    }

    private static void tellRefuses() {
        EventRows x = new EventRows();
        tellIsBad(x, "no call open");
        DUE.is("tell without a call", x.tell(0, 0, -1, -1, 0), -2);
        x.begin(1000, false);
        tellIsBad(x, "in a call");
        DUE.is("told(1) after refusals", x.told(1), 0);
        DUE.is("told(3) after refusals", x.told(3), 0);
        for (int i = 0; i < 32; i++) {
            x.tell(0, 0, -1, -1, i);
        }
        tellIsBad(x, "ahead of FULL");
        x.end(true);
        DUE.is("tell, STATE is ahead of FULL", x.tell(0, 0, -1, -1, 0), -2);
    }

    private static void tellIsBad(EventRows x, String when) {
        for (int account : new int[] {-1, 10, MIN, MAX}) {
            DUE.is(when + ": account " + account, x.tell(account, 0, -1, -1, 0), -1);
        }
        for (int topic : new int[] {-2, 1000, MIN, MAX}) {
            DUE.is(when + ": a " + topic, x.tell(0, topic, -1, -1, 0), -1);
            DUE.is(when + ": b " + topic, x.tell(0, 0, topic, -1, 0), -1);
            DUE.is(when + ": c " + topic, x.tell(0, 0, 0, topic, 0), -1);
            DUE.is(when + ": b none, c " + topic, x.tell(0, 0, -1, topic, 0), -1);
        }
        DUE.is(when + ": a none", x.tell(0, -1, -1, -1, 0), -1);
        DUE.is(when + ": a none, b not", x.tell(0, -1, 1, -1, 0), -1);
        DUE.is(when + ": b none, c not", x.tell(0, 0, -1, 0, 0), -1);
    }

    private static void tellIsFullAheadOfUnits() {
        EventRows x = new EventRows();
        x.begin(32 * 7, false);
        for (int i = 1; i <= 32; i++) {
            DUE.is("tell, event " + i, x.tell(0, 0, -1, -1, i), i);
        }
        DUE.is("told(2)", x.told(2), 0);
        DUE.is("tell, 32 are there, no unit is left", x.tell(0, 0, -1, -1, 0), -3);
        DUE.is("told(0), the call has not failed", x.told(0), 1);
        DUE.is("told(3)", x.told(3), 32);
        DUE.is("end(false)", x.end(false), -21);
        DUE.is("told(3), all are gone", x.told(3), 0);
        x.begin(7, false);
        DUE.is("tell again", x.tell(0, 0, -1, -1, 0), 1);
    }

    private static void tellFailsUpToOneThatIsCaught() {
        EventRows x = new EventRows();
        x.begin(7, true);
        DUE.is("tell of the first call", x.tell(1, 1, -1, -1, 11), 1);
        x.end(true);
        x.begin(100, true);
        x.tell(1, 2, -1, -1, 12);
        x.begin(100, true);
        x.tell(1, 3, -1, -1, 13);
        x.begin(100, false);
        x.tell(1, 4, -1, -1, 14);
        x.begin(10, false);
        x.tell(1, 5, -1, -1, 15);
        DUE.is("tell with 3 units left, three fail", x.tell(1, 6, -1, -1, 16), -23);
        DUE.is("told(0)", x.told(0), 1);
        DUE.is("told(1): 7; 1, 7; 1, 7; 1, 7", x.told(1), 31);
        DUE.is("told(3)", x.told(3), 2);
        DUE.is("told(4)", x.told(4), 2);
        DUE.is("tell goes on", x.tell(2, 7, -1, -1, 17), 3);
        DUE.is("end(true)", x.end(true), 38);
        x.close();
        DUE.is("value(0, 0)", x.value(0, 0), 11);
        DUE.is("value(0, 1)", x.value(0, 1), 12);
        DUE.is("value(0, 2)", x.value(0, 2), 17);
        DUE.is("event(0, 2, 5)", x.event(0, 2, 5), 2);
        DUE.is("size(0, 0)", x.size(0, 0), 3);
    }

    private static void endWell() {
        EventRows x = new EventRows();
        DUE.is("end(true) without a call", x.end(true), -2);
        DUE.is("end(false) without a call", x.end(false), -2);
        x.begin(50, false);
        x.begin(20, false);
        x.tell(0, 1, 2, -1, 0);
        DUE.is("end(true) of the inner one", x.end(true), 9);
        DUE.is("told(1)", x.told(1), 10);
        DUE.is("end(true) of the outer one", x.end(true), 10);
        DUE.is("told(3), the event stays", x.told(3), 1);
        DUE.is("told(0)", x.told(0), 0);
        DUE.is("end(true), none is left", x.end(true), -2);
    }

    private static void endFailing() {
        EventRows x = new EventRows();
        x.begin(100, false);
        x.tell(0, 1, -1, -1, 1);
        x.begin(50, true);
        x.tell(0, 1, -1, -1, 1);
        DUE.is("end(false), it was caught", x.end(false), -21);
        DUE.is("told(3)", x.told(3), 1);
        DUE.is("told(1)", x.told(1), 15);
        for (int depth = 2; depth <= 8; depth++) {
            x.begin(50, false);
        }
        DUE.is("end(false), all eight fail", x.end(false), -28);
        DUE.is("told(0)", x.told(0), 0);
        DUE.is("told(3)", x.told(3), 0);
        DUE.is("begin, the next one may", x.begin(1, false), 1);
        DUE.is("told(2), nothing of the old ones", x.told(2), 1);
    }

    private static void whatACallUsedIsUsedAround() {
        EventRows x = new EventRows();
        x.begin(60, false);
        x.begin(40, true);
        x.begin(30, true);
        x.tell(0, 1, 1, 1, 1);
        DUE.is("tell uses more than is left", x.tell(0, 1, 1, 1, 1), 2);
        DUE.is("tell fails", x.tell(0, 1, 1, 1, 1), -21);
        DUE.is("told(1): 1 to begin and 22 within", x.told(1), 23);
        DUE.is("told(2)", x.told(2), 17);
        DUE.is("end(true)", x.end(true), 23);
        DUE.is("told(1) of the first", x.told(1), 24);
        DUE.is("told(3)", x.told(3), 0);
    }

    private static void told() {
        EventRows x = new EventRows();
        for (int what : new int[] {-1, 7, MIN, MAX}) {
            DUE.is("told(" + what + ")", x.told(what), -1);
        }
        x.subscribe(3, 0);
        x.begin(100, false);
        x.tell(1, 1, -1, -1, 1);
        x.tell(1, 1, -1, -1, 1);
        x.end(true);
        x.close();
        x.begin(90, false);
        x.tell(1, 1, -1, -1, 1);
        DUE.is("told(0)", x.told(0), 1);
        DUE.is("told(1)", x.told(1), 7);
        DUE.is("told(2)", x.told(2), 83);
        DUE.is("told(3)", x.told(3), 1);
        DUE.is("told(4)", x.told(4), 3);
        DUE.is("told(5)", x.told(5), 1);
        DUE.is("told(6)", x.told(6), 1);
        x.end(false);
        DUE.is("told(1) without a call", x.told(1), 0);
        DUE.is("told(2) without a call", x.told(2), 0);
        DUE.is("told(4), the event is not there", x.told(4), 2);
    }
}

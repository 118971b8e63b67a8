import java.util.List;

/**
 * The section 'Terms', REFUSALS: where two of them fit a call, the first is its answer; and none of
 * them changes anything. That of a single refusal stands with its promise.
 */
public final class RefusalsTest {
    private static final int BAD = -1, STATE = -2, FULL = -3, GONE = -4;
    private static final int MIN = Integer.MIN_VALUE, MAX = Integer.MAX_VALUE;
    private static final String FIRST = "REFUSALS are answers, the first that fits";
    private static final Due DUE = new Due("RefusalsTest");

    private static final List<Due.State> ALL_STATES = List.of(States::fresh, States::rich, States::inCalls,
            States::withoutUnits, States::eightCalls, States::eightCallsWithoutUnits, States::fullOpenBlock,
            States::fullOpenBlockWithoutUnits, States::fullOpenBlockWithoutCall, States::fortyBlocks,
            States::fortyBlocksInCall, States::eightSubscribers, States::fiveInOut);

    public static void main(String[] args) {
        refusalsAreAnswers();
        refusalsOfEachKind();
        beginBadAheadOfFull();
        beginBadAheadOfUnits();
        beginFullAheadOfUnits();
        tellBadAheadOfState();
        tellBadAheadOfFull();
        tellBadAheadOfUnits();
        tellStateAheadOfFull();
        closeStateAheadOfFull();
        backBadAheadOfState();
        eventBadAheadOfGone();
        findBadAheadOfGone();
        pathBadAheadOfGone();
        subscribeBadAheadOfFull();
        refusedOnceAndThenTaken();
        DUE.end();
    }

    /** Whatever the numbers and the state are, a call that answers an int throws nothing. */
    private static void refusalsAreAnswers() {
        DUE.sentence("Terms, REFUSALS", "REFUSALS are answers");
        for (Due.State state : ALL_STATES) {
            for (int n : new int[] {MIN, -21, -1, 0, 7, 31, 32, 39, 40, 41, 1000, 10001, MAX}) {
                for (Due.Act act : actsWith(n)) {
                    Rows x = new Rows();
                    state.of(x);
                    String got = Due.answerOf(() -> act.on(x));
                    if (!got.matches("-?[0-9]+")) {
                        DUE.report("a call with " + n + " threw " + got);
                    }
                }
            }
        }
    }

    private static List<Due.Act> actsWith(int n) {
        return List.of(x -> x.begin(n, true), x -> x.tell(n, n, n, n, n), x -> x.tell(0, n, -1, -1, 0),
                x -> x.end(n > 0), x -> x.told(n), Rows::close, x -> x.back(n), x -> x.prune(n), x -> x.size(n, 0),
                x -> x.size(0, n), x -> x.event(n, 0, 0), x -> x.event(0, n, 0), x -> x.event(0, 0, n),
                x -> x.event(n, n, n), x -> x.may(n, 0), x -> x.may(0, n), x -> x.find(n, n, n), x -> x.find(0, n, 0),
                x -> x.find(0, 0, n), x -> x.path(n, 0), x -> x.path(0, n), x -> x.lay(n), Rows::wipe,
                x -> x.proved(n, n, n, n, n, n, n), x -> x.proved(0, n, 0, 0, -1, -1, -7),
                x -> x.proved(0, 0, 0, n, n, n, n), x -> x.subscribe(n, 0), x -> x.subscribe(0, n), x -> x.next(n),
                x -> x.place(n));
    }

    /** The constants here: that they are the numbers of the document, FaceTest looks at. */
    private static void refusalsOfEachKind() {
        DUE.sentence("Terms, REFUSALS", "BAD (a number is not as told, there is no such thing)");
        DUE.refuses(States::rich, "told(7), not as told", EventRows.BAD, x -> x.told(7));
        DUE.refuses(States::rich, "size(4, 0), no such thing", EventRows.BAD, x -> x.size(4, 0));
        DUE.sentence("Terms, REFUSALS", "STATE (not now, as told)");
        DUE.refuses(States::inCalls, "close(), not now", EventRows.STATE, Rows::close);
        DUE.refuses(States::rich, "end(true), not now", EventRows.STATE, x -> x.end(true));
        DUE.sentence("Terms, REFUSALS", "FULL");
        DUE.refuses(States::eightCalls, "begin(1, true)", EventRows.FULL, x -> x.begin(1, true));
        DUE.refuses(States::fullOpenBlock, "tell", EventRows.FULL, x -> x.tell(0, 5, -1, -1, 1));
        DUE.refuses(States::fortyBlocks, "close()", EventRows.FULL, Rows::close);
        DUE.refuses(States::fiveInOut, "lay(1)", EventRows.FULL, x -> x.lay(1));
        DUE.refuses(States::eightSubscribers, "subscribe(1, 0)", EventRows.FULL, x -> x.subscribe(1, 0));
        DUE.sentence("Terms, REFUSALS", "GONE (EVENTS that are not KEPT)");
        DUE.refuses(States::rich, "event(2, 0, 0)", EventRows.GONE, x -> x.event(2, 0, 0));
        DUE.refuses(States::rich, "find(2, 0, 0)", EventRows.GONE, x -> x.find(2, 0, 0));
        DUE.refuses(States::rich, "path(2, 0)", EventRows.GONE, x -> x.path(2, 0));
    }

    private static void beginBadAheadOfFull() {
        DUE.sentence("promise 2 with Terms, REFUSALS", FIRST);
        for (int limit : new int[] {-1, 10001, MIN, MAX}) {
            String call = "begin(" + limit + ", true), 8 are open";
            DUE.refuses(States::eightCalls, call, BAD, x -> x.begin(limit, true));
            DUE.refuses(States::eightCallsWithoutUnits, call + " without a unit", BAD, x -> x.begin(limit, true));
        }
    }

    private static void beginBadAheadOfUnits() {
        DUE.sentence("promise 2 with Terms, REFUSALS", FIRST);
        for (int limit : new int[] {-1, 10001, MIN, MAX}) {
            DUE.refuses(States::withoutUnits, "begin(" + limit + ", false)", BAD, x -> x.begin(limit, false));
        }
    }

    private static void beginFullAheadOfUnits() {
        DUE.sentence("promise 2 with Terms, REFUSALS", FIRST);
        DUE.refuses(States::eightCallsWithoutUnits, "begin(0, false)", FULL, x -> x.begin(0, false));
    }

    /** A tell with a number that is not as told, of each kind, is BAD in this state. */
    private static void tellIsBad(Due.State state, String when) {
        int[][] bad = {{-1, 5, -1, -1}, {10, 5, -1, -1}, {0, -1, -1, -1}, {0, 1000, -1, -1}, {0, 5, -2, -1},
            {0, 5, 1000, -1}, {0, 5, 6, -2}, {0, 5, 6, 1000}, {0, 5, -1, 0}, {MIN, MIN, MIN, MIN}, {MAX, MAX, MAX, MAX}};
        for (int[] row : bad) {
            String call = "tell " + row[0] + " " + row[1] + " " + row[2] + " " + row[3] + " " + when;
            DUE.refuses(state, call, BAD, x -> x.tell(row[0], row[1], row[2], row[3], 1));
        }
    }

    private static void tellBadAheadOfState() {
        DUE.sentence("promise 3 with Terms, REFUSALS", FIRST);
        tellIsBad(States::rich, "without a call");
    }

    private static void tellBadAheadOfFull() {
        DUE.sentence("promise 3 with Terms, REFUSALS", FIRST);
        tellIsBad(States::fullOpenBlock, "where 32 are");
        tellIsBad(States::fullOpenBlockWithoutCall, "where 32 are, without a call");
    }

    private static void tellBadAheadOfUnits() {
        DUE.sentence("promise 3 with Terms, REFUSALS", FIRST);
        tellIsBad(States::withoutUnits, "without a unit");
    }

    private static void tellStateAheadOfFull() {
        DUE.sentence("promise 3 with Terms, REFUSALS", FIRST);
        DUE.refuses(States::fullOpenBlockWithoutCall, "tell, 32 are there, no call", STATE, x -> x.tell(0, 5, -1, -1, 1));
    }

    private static void closeStateAheadOfFull() {
        DUE.sentence("promise 6 with Terms, REFUSALS", FIRST);
        DUE.refuses(States::fortyBlocksInCall, "close(), 40 are there, in a call", STATE, Rows::close);
    }

    private static void backBadAheadOfState() {
        DUE.sentence("promise 7 with Terms, REFUSALS", FIRST);
        for (int n : new int[] {-1, 5, 41, MIN, MAX}) {
            DUE.refuses(States::inCalls, "back(" + n + ") of 4 in calls", BAD, x -> x.back(n));
        }
        DUE.refuses(States::fortyBlocksInCall, "back(41) of 40 in a call", BAD, x -> x.back(41));
        DUE.refuses(States::fortyBlocksInCall, "back(40) of 40 in a call", STATE, x -> x.back(40));
    }

    private static void eventBadAheadOfGone() {
        DUE.sentence("promise 10 with Terms, REFUSALS", FIRST);
        for (int i : new int[] {-1, 2, 32, MIN, MAX}) {
            DUE.refuses(States::inCalls, "event(2, " + i + ", 0), 2 were there", BAD, x -> x.event(2, i, 0));
        }
        for (int what : new int[] {-1, 6, MIN, MAX}) {
            DUE.refuses(States::inCalls, "event(2, 0, " + what + ") when pruned", BAD, x -> x.event(2, 0, what));
        }
        Rows y = new Rows();
        y.close();
        y.prune(0);
        DUE.is("event(0, 0, 0), an empty block was pruned", y.event(0, 0, 0), BAD);
    }

    private static void findBadAheadOfGone() {
        DUE.sentence("promise 15 with Terms, REFUSALS", FIRST);
        for (int topic : new int[] {-1, 1000, -2, MIN, MAX}) {
            DUE.refuses(States::inCalls, "find(2, " + topic + ", 0) when pruned", BAD, x -> x.find(2, topic, 0));
        }
        for (int i : new int[] {-1, MIN}) {
            DUE.refuses(States::inCalls, "find(2, 0, " + i + ") when pruned", BAD, x -> x.find(2, 0, i));
        }
    }

    private static void pathBadAheadOfGone() {
        DUE.sentence("promise 16 with Terms, REFUSALS", FIRST);
        for (int i : new int[] {-1, 2, 32, MIN, MAX}) {
            DUE.refuses(States::inCalls, "path(2, " + i + "), 2 were there", BAD, x -> x.path(2, i));
        }
        Rows y = new Rows();
        y.close();
        y.prune(0);
        DUE.is("path(0, 0), an empty block was pruned", y.path(0, 0), BAD);
    }

    private static void subscribeBadAheadOfFull() {
        DUE.sentence("promise 21 with Terms, REFUSALS", FIRST);
        for (int topic : new int[] {-2, 1000, MIN, MAX}) {
            DUE.refuses(States::eightSubscribers, "subscribe(" + topic + ", 0)", BAD, x -> x.subscribe(topic, 0));
        }
        for (int block : new int[] {-1, 5, MIN, MAX}) {
            DUE.refuses(States::eightSubscribers, "subscribe(0, " + block + ")", BAD, x -> x.subscribe(0, block));
        }
    }

    /** What was refused is taken as soon as it may be, with nothing left of the refusals. */
    private static void refusedOnceAndThenTaken() {
        DUE.sentence("Terms, REFUSALS", "They change nothing.");
        Rows x = new Rows();
        DUE.is("tell without a call", x.tell(0, 5, -1, -1, 1), STATE);
        x.begin(20, false);
        DUE.is("tell, BAD", x.tell(10, 5, -1, -1, 1), BAD);
        DUE.is("tell", x.tell(0, 5, -1, -1, 2), 1);
        DUE.is("close() in a call", x.close(), STATE);
        DUE.is("back(0) in a call", x.back(0), STATE);
        DUE.is("end(true), refused ones used nothing", x.end(true), 7);
        DUE.is("close()", x.close(), 0);
        DUE.is("size(0, 0)", x.size(0, 0), 1);
        DUE.is("event(0, 0, 5)", x.event(0, 0, 5), 0);
        x.prune(0);
        DUE.is("find(0, 5, 0) when pruned", x.find(0, 5, 0), GONE);
        DUE.is("back(2)", x.back(2), BAD);
        DUE.is("back(1)", x.back(1), 0);
    }
}

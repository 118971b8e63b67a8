import java.util.List;

/** Promises 16 to 20, sentence by sentence: path, out, lay, wipe, proved. */
public final class ProofsTest {
    private static final int BAD = -1, FULL = -3, GONE = -4;
    private static final int MIN = Integer.MIN_VALUE, MAX = Integer.MAX_VALUE;
    private static final int[] NO_BLOCKS = {-1, 4, 39, 40, 41, MIN, MAX};
    private static final Class<ArrayIndexOutOfBoundsException> INDEX = ArrayIndexOutOfBoundsException.class;
    private static final Due DUE = new Due("ProofsTest");

    public static void main(String[] args) {
        pathTellsHowMany();
        pathTakesThePlaceOfWhatWasInOut();
        pathRefuses();
        pathIsGone();
        outHasFromNoneToFive();
        outRefusesWhatItHasNot();
        layPutsBehind();
        layTakesAnyLong();
        layIsFull();
        wipeTellsHowManyItHad();
        wipeLeavesNothing();
        everyEventIsProved();
        otherEventsAreNotProved();
        otherPathsProveNothing();
        provedWithJustAsManyAsAreNeeded();
        provedWithoutAnyNeeded();
        provedByAPathThatIsLaid();
        provedWhenPruned();
        provedChangesNothing();
        provedRefusesBlocks();
        provedRefusesPlaces();
        provedRefusesEvents();
        DUE.end();
    }

    // ---- promise 16

    private static void pathTellsHowMany() {
        DUE.sentence("promise 16", "THE PATH of an EVENT to OUT: how many.");
        int[][] due = {{1, 0, 0}, {2, 1, 1}, {4, 0, 2}, {8, 7, 3}, {16, 0, 4}, {17, 16, 1}, {17, 15, 5}, {32, 31, 5}};
        for (int[] row : due) {
            Rows x = Sample.ofBlock(row[0]);
            DUE.is("path(0, " + row[1] + ") of " + row[0], x.path(0, row[1]), row[2]);
            List<Long> path = Model.path(Sample.leaves(row[0]), row[1]);
            for (int k = 0; k < row[2]; k++) {
                DUE.is("out(" + k + ")", x.out(k), path.get(k));
            }
            DUE.isThrown("out(" + row[2] + "), it has no more", INDEX, () -> x.out(row[2]));
        }
    }

    private static void pathTakesThePlaceOfWhatWasInOut() {
        DUE.sentence("promise 16", "THE PATH of an EVENT to OUT: how many.");
        Rows x = Sample.ofBlock(5);
        for (int k = 0; k < 5; k++) {
            x.lay(k);
        }
        DUE.is("path(0, 0), OUT was full", x.path(0, 0), 3);
        DUE.isThrown("out(3)", INDEX, () -> x.out(3));
        DUE.is("path(0, 4), a shorter one", x.path(0, 4), 1);
        DUE.isThrown("out(1)", INDEX, () -> x.out(1));
        DUE.is("path(0, 3), a longer one", x.path(0, 3), 3);
        DUE.is("out(0)", x.out(0), Sample.leaf(2));
        DUE.is("wipe()", x.wipe(), 3);
        Rows y = Sample.ofBlock(1);
        y.lay(7);
        DUE.is("path(0, 0) of one event", y.path(0, 0), 0);
        DUE.isThrown("out(0)", INDEX, () -> y.out(0));
    }

    private static void pathRefuses() {
        DUE.sentence("promise 16", "BAD; GONE.");
        for (int block : NO_BLOCKS) {
            DUE.refuses(States::inCalls, "path(" + block + ", 0)", BAD, x -> x.path(block, 0));
        }
        for (int i : new int[] {-1, 3, 31, 32, MIN, MAX}) {
            DUE.refuses(States::inCalls, "path(0, " + i + ")", BAD, x -> x.path(0, i));
        }
        DUE.refuses(States::inCalls, "path(1, 0) of an empty block", BAD, x -> x.path(1, 0));
        DUE.refuses(States::fresh, "path(0, 0), none is there", BAD, x -> x.path(0, 0));
        DUE.refuses(States::fiveInOut, "path(0, 3), OUT is full", BAD, x -> x.path(0, 3));
        Rows y = Sample.ofBlock(32);
        DUE.is("path(0, 32) of a full block", y.path(0, 32), BAD);
    }

    private static void pathIsGone() {
        DUE.sentence("promise 16 with Terms, REFUSALS", "GONE (EVENTS that are not KEPT)");
        for (int i = 0; i < 2; i++) {
            int number = i;
            DUE.refuses(States::inCalls, "path(2, " + i + ") when pruned", GONE, x -> x.path(2, number));
            DUE.refuses(States::fiveInOut, "path(2, " + i + "), OUT is full", GONE, x -> x.path(2, number));
        }
    }

    // ---- promise 17

    private static void outHasFromNoneToFive() {
        DUE.sentence("promise 17", "The k-th of OUT.");
        Rows x = new Rows();
        for (int many = 1; many <= 5; many++) {
            x.lay(10 * many);
            for (int k = 0; k < many; k++) {
                DUE.is("out(" + k + ") of " + many, x.out(k), 10 * (k + 1));
            }
        }
    }

    private static void outRefusesWhatItHasNot() {
        DUE.sentence("promise 17", "ArrayIndexOutOfBounds: it has not so many.");
        for (int k : new int[] {-1, 0, 1, 4, 5, MIN, MAX}) {
            DUE.refuses(States::fresh, "out(" + k + ") of none", INDEX, x -> x.out(k));
        }
        for (int k : new int[] {-1, 2, 3, 4, 5, MIN, MAX}) {
            DUE.refuses(States::inCalls, "out(" + k + ") of two", INDEX, x -> x.out(k));
        }
        for (int k : new int[] {-1, 5, 6, MIN, MAX}) {
            DUE.refuses(States::fiveInOut, "out(" + k + ") of five", INDEX, x -> x.out(k));
        }
    }

    // ---- promise 18

    private static void layPutsBehind() {
        DUE.sentence("promise 18", "A long is put behind OUT: how many it has.");
        Rows x = new Rows();
        for (int many = 1; many <= 5; many++) {
            DUE.is("lay", x.lay(many), many);
        }
        for (int k = 0; k < 5; k++) {
            DUE.is("out(" + k + ")", x.out(k), k + 1);
        }
        Rows y = Sample.ofBlock(2);
        y.path(0, 0);
        DUE.is("lay(9) behind a path", y.lay(9), 2);
        DUE.is("out(0)", y.out(0), Sample.leaf(1));
        DUE.is("out(1)", y.out(1), 9);
    }

    private static void layTakesAnyLong() {
        DUE.sentence("promise 18", "A long is put behind OUT");
        long[] longs = {Long.MIN_VALUE, Long.MAX_VALUE, -1, 0, 1L << 32};
        Rows x = new Rows();
        for (long v : longs) {
            x.lay(v);
        }
        for (int k = 0; k < 5; k++) {
            DUE.is("out(" + k + ")", x.out(k), longs[k]);
        }
    }

    private static void layIsFull() {
        DUE.sentence("promise 18", "FULL: 5.");
        for (long v : new long[] {0, Long.MIN_VALUE, Long.MAX_VALUE}) {
            DUE.refuses(States::fiveInOut, "lay(" + v + "), there are 5", FULL, x -> x.lay(v));
        }
        Rows x = Sample.ofBlock(32);
        x.path(0, 0);
        DUE.is("lay behind a path of 5", x.lay(1), FULL);
        DUE.is("event 0 is still proved", Sample.proved(x, 0, 0), 1);
        Rows y = Sample.ofBlock(16);
        y.path(0, 0);
        DUE.is("lay behind a path of 4", y.lay(1), 5);
        DUE.is("lay once more", y.lay(1), FULL);
    }

    // ---- promise 19

    private static void wipeTellsHowManyItHad() {
        DUE.sentence("promise 19", "OUT is empty: how many it had.");
        for (int many = 0; many <= 5; many++) {
            Rows x = new Rows();
            for (int k = 0; k < many; k++) {
                x.lay(k);
            }
            DUE.is("wipe()", x.wipe(), many);
            DUE.is("wipe() again", x.wipe(), 0);
        }
        Rows y = Sample.ofBlock(32);
        y.path(0, 31);
        DUE.is("wipe() of a path", y.wipe(), 5);
    }

    private static void wipeLeavesNothing() {
        DUE.sentence("promise 19", "OUT is empty");
        Rows x = new Rows();
        for (int k = 0; k < 5; k++) {
            x.lay(k);
        }
        x.wipe();
        DUE.isThrown("out(0)", INDEX, () -> x.out(0));
        for (int many = 1; many <= 5; many++) {
            DUE.is("lay has room again", x.lay(50 + many), many);
            DUE.is("out", x.out(many - 1), 50 + many);
        }
    }

    // ---- promise 20

    private static void everyEventIsProved() {
        DUE.sentence("promise 20",
                "Whether THE ROOT of a BLOCK is what comes of an EVENT like this at place i of it and OUT as its PATH");
        for (int many = 1; many <= 32; many++) {
            Rows x = Sample.ofBlock(many);
            for (int i = 0; i < many; i++) {
                x.path(0, i);
                DUE.is("event " + i + " of " + many, Sample.proved(x, 0, i), 1);
                if (many > 1) {
                    DUE.is("not the one beside it", Sample.proved(x, 0, (i + 1) % many), 0);
                }
            }
        }
    }

    private static void otherEventsAreNotProved() {
        DUE.sentence("promise 20", "an EVENT like this at place i of it");
        Rows x = Sample.ofBlock(6);
        x.path(0, 2);
        DUE.is("as it was told", x.proved(0, 2, 2, 2, 102, 202, 1993), 1);
        DUE.is("another account", x.proved(0, 2, 3, 2, 102, 202, 1993), 0);
        DUE.is("another a", x.proved(0, 2, 2, 3, 102, 202, 1993), 0);
        DUE.is("another b", x.proved(0, 2, 2, 2, 103, 202, 1993), 0);
        DUE.is("another c", x.proved(0, 2, 2, 2, 102, 203, 1993), 0);
        DUE.is("no c", x.proved(0, 2, 2, 2, 102, -1, 1993), 0);
        DUE.is("no b", x.proved(0, 2, 2, 2, -1, -1, 1993), 0);
        DUE.is("topics in another order", x.proved(0, 2, 2, 102, 2, 202, 1993), 0);
        DUE.is("another value", x.proved(0, 2, 2, 2, 102, 202, 1994), 0);
        DUE.is("another place", x.proved(0, 3, 2, 2, 102, 202, 1993), 0);
        DUE.is("as it was told, once more", x.proved(0, 2, 2, 2, 102, 202, 1993), 1);
    }

    private static void otherPathsProveNothing() {
        DUE.sentence("promise 20", "OUT as its PATH");
        Rows x = Sample.ofBlock(4);
        Sample.closeMany(x, 3);
        x.path(0, 1);
        long first = x.out(0);
        long second = x.out(1);
        DUE.is("the same event of another block", Sample.proved(x, 1, 1), 0);
        long[][] others = {{second, first}, {first + 1, second}, {first, second ^ Long.MIN_VALUE}, {0, 0}};
        for (long[] other : others) {
            x.wipe();
            x.lay(other[0]);
            x.lay(other[1]);
            DUE.is("another path", Sample.proved(x, 0, 1), 0);
        }
    }

    private static void provedWithJustAsManyAsAreNeeded() {
        DUE.sentence("promise 20", "(with just as many as are needed): 1, 0.");
        int[][] rows = {{2, 0}, {3, 2}, {5, 4}, {5, 0}, {17, 16}, {31, 30}, {32, 31}};
        for (int[] row : rows) {
            List<Long> path = Model.path(Sample.leaves(row[0]), row[1]);
            Rows x = Sample.ofBlock(row[0]);
            for (int k = 0; k < path.size(); k++) {
                DUE.is(k + " of " + path.size() + " are too few", Sample.proved(x, 0, row[1]), 0);
                x.lay(path.get(k));
            }
            DUE.is("event " + row[1] + " of " + row[0] + ", just as many", Sample.proved(x, 0, row[1]), 1);
            for (int k = path.size(); k < 5; k++) {
                x.lay(0);
                DUE.is((k + 1) + " for " + path.size() + " are too many", Sample.proved(x, 0, row[1]), 0);
            }
        }
    }

    private static void provedWithoutAnyNeeded() {
        DUE.sentence("promise 20", "(with just as many as are needed): 1, 0.");
        Rows x = Sample.ofBlock(1);
        DUE.is("none is needed, none is there", Sample.proved(x, 0, 0), 1);
        x.lay(0);
        DUE.is("none is needed, one is there", Sample.proved(x, 0, 0), 0);
        x.wipe();
        DUE.is("none is needed, none is left", Sample.proved(x, 0, 0), 1);
        DUE.is("another event", x.proved(0, 0, 0, 0, -1, -1, 0), 0);
    }

    private static void provedByAPathThatIsLaid() {
        DUE.sentence("promise 20", "OUT as its PATH");
        Rows x = Sample.ofBlock(4);
        x.lay(Sample.leaf(0));
        x.lay(Model.mix(Sample.leaf(2), Sample.leaf(3)));
        DUE.is("the second of 4", Sample.proved(x, 0, 1), 1);
        x.wipe();
        x.lay(Sample.leaf(1));
        x.lay(Model.mix(Sample.leaf(2), Sample.leaf(3)));
        DUE.is("the first of 4", Sample.proved(x, 0, 0), 1);
    }

    private static void provedWhenPruned() {
        DUE.sentence("promise 20", "BAD: also, the BLOCK has, or had, no place i.");
        for (int many : new int[] {1, 3, 32}) {
            Rows x = Sample.ofBlock(many);
            x.path(0, many - 1);
            x.prune(0);
            DUE.is("the last of " + many + " that were there", Sample.proved(x, 0, many - 1), 1);
            DUE.is("another event there", x.proved(0, many - 1, 0, 0, 0, 0, 0), 0);
            DUE.is("behind the last of " + many, Sample.proved(x, 0, many), BAD);
        }
    }

    private static void provedChangesNothing() {
        DUE.sentence("promise 20", "1, 0.");
        Due.State withPath = x -> {
            States.inCalls(x);
            x.path(0, 2);
        };
        DUE.changesNothing(withPath, "proved, 1", x -> Sample.proved(x, 0, 2));
        DUE.changesNothing(withPath, "proved, 0", x -> Sample.proved(x, 0, 1));
        DUE.changesNothing(States::inCalls, "proved, 0 when pruned", x -> Sample.proved(x, 2, 1));
    }

    private static void provedRefusesBlocks() {
        DUE.sentence("promise 20 with Terms, REFUSALS", "BAD (a number is not as told, there is no such thing)");
        for (int block : NO_BLOCKS) {
            DUE.refuses(States::inCalls, "proved, block " + block, BAD, x -> x.proved(block, 0, 0, 0, -1, -1, -7));
        }
        DUE.refuses(States::fresh, "proved, none is there", BAD, x -> x.proved(0, 0, 0, 0, -1, -1, -7));
    }

    private static void provedRefusesPlaces() {
        DUE.sentence("promise 20", "BAD: also, the BLOCK has, or had, no place i.");
        for (int i : new int[] {-1, 3, 31, 32, MIN, MAX}) {
            DUE.refuses(States::inCalls, "proved at " + i + " of 3", BAD, x -> x.proved(0, i, 0, 0, -1, -1, -7));
        }
        for (int i : new int[] {-1, 2, 32, MIN, MAX}) {
            DUE.refuses(States::inCalls, "proved at " + i + " of 2, pruned", BAD, x -> x.proved(2, i, 0, 0, -1, -1, -7));
        }
        DUE.refuses(States::inCalls, "proved at 0 of none", BAD, x -> x.proved(1, 0, 0, 0, -1, -1, -7));
        Rows y = new Rows();
        y.close();
        y.prune(0);
        DUE.is("proved at 0 of none, pruned", y.proved(0, 0, 0, 0, -1, -1, 0), BAD);
        Rows z = Sample.ofBlock(32);
        z.path(0, 31);
        DUE.is("proved at 31 of 32", Sample.proved(z, 0, 31), 1);
        DUE.is("proved at 32 of 32", z.proved(0, 32, 0, 0, -1, -1, -7), BAD);
    }

    private static void provedRefusesEvents() {
        DUE.sentence("promise 20 with Terms, EVENTS",
                "EVENTS have an ACCOUNT (0 .. 9), one to three TOPICS (0 .. 999), a VALUE (a long)");
        for (int account : new int[] {-1, 10, MIN, MAX}) {
            DUE.refuses(States::inCalls, "proved, account " + account, BAD, x -> x.proved(0, 0, account, 0, -1, -1, -7));
        }
        for (int topic : new int[] {-2, 1000, MIN, MAX}) {
            DUE.refuses(States::inCalls, "proved, a " + topic, BAD, x -> x.proved(0, 0, 0, topic, -1, -1, -7));
            DUE.refuses(States::inCalls, "proved, b " + topic, BAD, x -> x.proved(0, 0, 0, 0, topic, -1, -7));
            DUE.refuses(States::inCalls, "proved, c " + topic, BAD, x -> x.proved(0, 0, 0, 0, 1, topic, -7));
        }
        for (int c : new int[] {0, 999}) {
            DUE.refuses(States::inCalls, "proved, b none, c " + c, BAD, x -> x.proved(0, 0, 0, 0, -1, c, -7));
        }
        DUE.refuses(States::inCalls, "proved, a none", BAD, x -> x.proved(0, 0, 0, -1, -1, -1, -7));
        Rows y = Sample.ofBlock(1);
        for (int[] row : new int[][] {{0, 0, 0, 0}, {9, 999, 999, 999}, {9, 999, -1, -1}, {0, 0, 0, -1}}) {
            DUE.is("proved, at the edges", y.proved(0, 0, row[0], row[1], row[2], row[3], Long.MIN_VALUE), 0);
        }
    }
}

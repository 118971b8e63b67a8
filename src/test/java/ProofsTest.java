/** Promises 16 to 20: path, out, lay, wipe, proved. */
public final class ProofsTest {
    private static final int MIN = Integer.MIN_VALUE;
    private static final int MAX = Integer.MAX_VALUE;
    private static final Class<ArrayIndexOutOfBoundsException> INDEX = ArrayIndexOutOfBoundsException.class;
    private static final Due DUE = new Due("ProofsTest");

    public static void main(String[] args) {
        pathOfFive();
        pathLengths();
        pathRefuses();
        outLayWipe();
        everyEventIsProved();
        otherEventsAreNotProved();
        provedNeedsJustAsMany();
        provedRefuses();
        provedForAPathThatIsLaid();
        DUE.end();
    }

    private static int account(int i) {
        return i % 10;
    }

    private static int second(int i) {
        return i % 3 == 0 ? -1 : 100 + i;
    }

    private static int third(int i) {
        return i % 3 == 2 ? 200 + i : -1;
    }

    private static long value(int i) {
        return 1000L * i - 7;
    }

    /** A new object with a block of so many events. */
    private static EventRows ofEvents(int many) {
        EventRows x = new EventRows();
        x.begin(10000, false);
        for (int i = 0; i < many; i++) {
            x.tell(account(i), i, second(i), third(i), value(i));
        }
        x.end(true);
        x.close();
        return x;
    }

    private static int provedAsTold(EventRows x, int i) {
        return x.proved(0, i, account(i), i, second(i), third(i), value(i));
    }

    private static long leaf(int i) {
        long digest = Model.mix(Model.mix(account(i), value(i)), i);
        digest = second(i) < 0 ? digest : Model.mix(digest, second(i));
        digest = third(i) < 0 ? digest : Model.mix(digest, third(i));
        return Model.mix(digest, i);
    }

    private static void pathOfFive() {
        EventRows x = ofEvents(5);
        long left = Model.mix(leaf(0), leaf(1));
        long right = Model.mix(leaf(2), leaf(3));
        DUE.is("path(0, 3)", x.path(0, 3), 3);
        DUE.is("out(0)", x.out(0), leaf(2));
        DUE.is("out(1)", x.out(1), left);
        DUE.is("out(2)", x.out(2), leaf(4));
        DUE.is("path(0, 4), nothing beside it but at the top", x.path(0, 4), 1);
        DUE.is("out(0)", x.out(0), Model.mix(left, right));
        DUE.isThrown("out(1), the old path is not there", INDEX, () -> x.out(1));
        DUE.is("root(0)", x.root(0), Model.mix(Model.mix(left, right), leaf(4)));
    }

    private static void pathLengths() {
        DUE.is("path(0, 0) of 1", ofEvents(1).path(0, 0), 0);
        DUE.is("path(0, 0) of 2", ofEvents(2).path(0, 0), 1);
        DUE.is("path(0, 2) of 3", ofEvents(3).path(0, 2), 1);
        DUE.is("path(0, 6) of 7", ofEvents(7).path(0, 6), 2);
        DUE.is("path(0, 16) of 17", ofEvents(17).path(0, 16), 1);
        DUE.is("path(0, 0) of 17", ofEvents(17).path(0, 0), 5);
        DUE.is("path(0, 31) of 32", ofEvents(32).path(0, 31), 5);
    }

    private static void pathRefuses() {
        EventRows x = ofEvents(3);
        x.close();
        x.lay(8);
        for (int block : new int[] {-1, 2, 40, MIN, MAX}) {
            DUE.is("path(" + block + ", 0)", x.path(block, 0), -1);
        }
        for (int i : new int[] {-1, 3, 32, MIN, MAX}) {
            DUE.is("path(0, " + i + ")", x.path(0, i), -1);
        }
        DUE.is("path(1, 0), an empty block", x.path(1, 0), -1);
        x.prune(0);
        DUE.is("path(0, 2) when pruned", x.path(0, 2), -4);
        DUE.is("path(0, 3) when pruned, BAD is ahead of GONE", x.path(0, 3), -1);
        DUE.is("out(0), refusals change nothing", x.out(0), 8);
        DUE.is("wipe()", x.wipe(), 1);
    }

    private static void outLayWipe() {
        EventRows x = new EventRows();
        DUE.isThrown("out(0) of none", INDEX, () -> x.out(0));
        for (int k = 0; k < 5; k++) {
            DUE.is("lay " + k, x.lay(Long.MIN_VALUE + k), k + 1);
        }
        DUE.is("lay, there are 5", x.lay(9), -3);
        for (int k = 0; k < 5; k++) {
            DUE.is("out(" + k + ")", x.out(k), Long.MIN_VALUE + k);
        }
        for (int k : new int[] {-1, 5, MIN, MAX}) {
            DUE.isThrown("out(" + k + ")", INDEX, () -> x.out(k));
        }
        DUE.is("wipe()", x.wipe(), 5);
        DUE.is("wipe() again", x.wipe(), 0);
        DUE.isThrown("out(0) when wiped", INDEX, () -> x.out(0));
        DUE.is("lay(3) when wiped", x.lay(3), 1);
        DUE.is("out(0)", x.out(0), 3);
    }

    private static void everyEventIsProved() {
        for (int many = 1; many <= 32; many++) {
            EventRows x = ofEvents(many);
            for (int i = 0; i < many; i++) {
                x.path(0, i);
                String what = "event " + i + " of " + many;
                DUE.is(what + " is proved", provedAsTold(x, i), 1);
                if (many > 1) {
                    DUE.is(what + " is not at another place", provedAsTold(x, (i + 1) % many), 0);
                }
            }
            x.prune(0);
            DUE.is("the last of " + many + ", when pruned", provedAsTold(x, many - 1), 1);
        }
    }

    private static void otherEventsAreNotProved() {
        EventRows x = ofEvents(6);
        x.path(0, 2);
        DUE.is("as it was told", x.proved(0, 2, 2, 2, 102, 202, 1993), 1);
        DUE.is("another account", x.proved(0, 2, 3, 2, 102, 202, 1993), 0);
        DUE.is("another a", x.proved(0, 2, 2, 3, 102, 202, 1993), 0);
        DUE.is("another b", x.proved(0, 2, 2, 2, 103, 202, 1993), 0);
        DUE.is("another c", x.proved(0, 2, 2, 2, 102, 203, 1993), 0);
        DUE.is("no c", x.proved(0, 2, 2, 2, 102, -1, 1993), 0);
        DUE.is("no b", x.proved(0, 2, 2, 2, -1, -1, 1993), 0);
        DUE.is("topics in another order", x.proved(0, 2, 2, 102, 2, 202, 1993), 0);
        DUE.is("another value", x.proved(0, 2, 2, 2, 102, 202, 1994), 0);
        DUE.is("as it was told, once more", x.proved(0, 2, 2, 2, 102, 202, 1993), 1);
    }

    private static void provedNeedsJustAsMany() {
        EventRows x = ofEvents(5);
        x.path(0, 4);
        x.lay(0);
        DUE.is("one too many", provedAsTold(x, 4), 0);
        x.wipe();
        DUE.is("one too few", provedAsTold(x, 4), 0);
        DUE.is("three too few", provedAsTold(x, 0), 0);
        EventRows y = ofEvents(1);
        DUE.is("none is needed", provedAsTold(y, 0), 1);
        y.lay(0);
        DUE.is("none is needed, one is there", provedAsTold(y, 0), 0);
        DUE.is("wipe(), it was not used up", y.wipe(), 1);
    }

    private static void provedRefuses() {
        EventRows x = ofEvents(3);
        x.close();
        x.path(0, 0);
        provedIsBad(x);
        x.prune(0);
        provedIsBad(x);
        DUE.is("refusals change nothing", x.proved(0, 0, 0, 0, -1, -1, -7), 1);
    }

    private static void provedIsBad(EventRows x) {
        for (int block : new int[] {-1, 2, 40, MIN, MAX}) {
            DUE.is("proved, block " + block, x.proved(block, 0, 0, 0, -1, -1, -7), -1);
        }
        for (int i : new int[] {-1, 3, 32, MIN, MAX}) {
            DUE.is("proved, i " + i, x.proved(0, i, 0, 0, -1, -1, -7), -1);
        }
        for (int account : new int[] {-1, 10, MIN, MAX}) {
            DUE.is("proved, account " + account, x.proved(0, 0, account, 0, -1, -1, -7), -1);
        }
        for (int topic : new int[] {-2, 1000, MIN, MAX}) {
            DUE.is("proved, a " + topic, x.proved(0, 0, 0, topic, -1, -1, -7), -1);
            DUE.is("proved, b " + topic, x.proved(0, 0, 0, 0, topic, -1, -7), -1);
            DUE.is("proved, c " + topic, x.proved(0, 0, 0, 0, 1, topic, -7), -1);
        }
        DUE.is("proved, a none", x.proved(0, 0, 0, -1, -1, -1, -7), -1);
        DUE.is("proved, b none, c not", x.proved(0, 0, 0, 0, -1, 1, -7), -1);
        DUE.is("proved, an empty block", x.proved(1, 0, 0, 0, -1, -1, -7), -1);
    }

    private static void provedForAPathThatIsLaid() {
        EventRows x = ofEvents(4);
        x.prune(0);
        x.lay(leaf(0));
        x.lay(Model.mix(leaf(2), leaf(3)));
        DUE.is("laid by hand", provedAsTold(x, 1), 1);
        x.wipe();
        x.lay(Model.mix(leaf(2), leaf(3)));
        x.lay(leaf(0));
        DUE.is("laid in another order", provedAsTold(x, 1), 0);
    }
}

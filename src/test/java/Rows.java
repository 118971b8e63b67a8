/**
 * An EventRows that counts its calls: the document promises nothing behind the 512th,
 * so a test that goes further is a wrong test.
 */
final class Rows {
    static final int MOST_CALLS = 512;

    private final EventRows rows = new EventRows();
    private int calls;

    int calls() {
        return calls;
    }

    private EventRows called() {
        calls++;
        if (calls > MOST_CALLS) {
            // An Error, so that no test takes it for an answer of the program.
            throw new AssertionError("the test uses an object for more than 512 calls");
        }
        return rows;
    }

    int begin(int limit, boolean caught) {
        return called().begin(limit, caught);
    }

    int tell(int account, int a, int b, int c, long value) {
        return called().tell(account, a, b, c, value);
    }

    int end(boolean well) {
        return called().end(well);
    }

    int told(int what) {
        return called().told(what);
    }

    int close() {
        return called().close();
    }

    int back(int n) {
        return called().back(n);
    }

    int prune(int block) {
        return called().prune(block);
    }

    int size(int block, int what) {
        return called().size(block, what);
    }

    int event(int block, int i, int what) {
        return called().event(block, i, what);
    }

    long value(int block, int i) {
        return called().value(block, i);
    }

    long root(int block) {
        return called().root(block);
    }

    long filter(int block) {
        return called().filter(block);
    }

    int may(int block, int topic) {
        return called().may(block, topic);
    }

    int find(int block, int topic, int i) {
        return called().find(block, topic, i);
    }

    int path(int block, int i) {
        return called().path(block, i);
    }

    long out(int k) {
        return called().out(k);
    }

    int lay(long v) {
        return called().lay(v);
    }

    int wipe() {
        return called().wipe();
    }

    int proved(int block, int i, int account, int a, int b, int c, long value) {
        return called().proved(block, i, account, a, b, c, value);
    }

    int subscribe(int topic, int block) {
        return called().subscribe(topic, block);
    }

    int next(int subscriber) {
        return called().next(subscriber);
    }

    int place(int subscriber) {
        return called().place(subscriber);
    }
}

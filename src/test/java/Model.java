import java.util.ArrayList;
import java.util.List;

/**
 * The document once more, written for plainness alone: lists, copies, all worked out anew
 * at each question. The answers of the program are held against it.
 */
final class Model {
    record Event(int account, List<Integer> topics, long value, int serial) {
        int topic(int k) {
            return k < topics.size() ? topics.get(k) : -1;
        }
    }

    static final class Call {
        int limit;
        int used;
        boolean caught;
        List<Event> before;
    }

    static final class Block {
        List<Event> events;
        boolean kept = true;
    }

    static final class Subscriber {
        int topic;
        int block;
        int number;
    }

    final List<Call> calls = new ArrayList<>();
    final List<Block> blocks = new ArrayList<>();
    final List<Subscriber> subscribers = new ArrayList<>();
    List<Event> open = new ArrayList<>();
    List<Long> out = new ArrayList<>();
    int everClosed;

    static long mix(long a, long b) {
        long that = (31L * a + b + 7L) * 0x9E3779B97F4A7C15L;
        return that ^ (that >>> 29);
    }

    private static boolean bad(int number, int from, int to) {
        return number < from || number > to;
    }

    private static boolean badEvent(int account, int a, int b, int c) {
        if (bad(account, 0, 9) || bad(a, 0, 999) || bad(b, -1, 999) || bad(c, -1, 999)) {
            return true;
        }
        return b == -1 && c != -1;
    }

    static List<Integer> topics(int a, int b, int c) {
        List<Integer> topics = new ArrayList<>();
        for (int topic : new int[] {a, b, c}) {
            if (topic != -1) {
                topics.add(topic);
            }
        }
        return topics;
    }

    private boolean noBlock(int block) {
        return bad(block, 0, blocks.size() - 1);
    }

    private boolean noEvent(int block, int i) {
        return noBlock(block) || bad(i, 0, blocks.get(block).events.size() - 1);
    }

    private Call innermost() {
        return calls.get(calls.size() - 1);
    }

    private int left() {
        return calls.isEmpty() ? 0 : innermost().limit - innermost().used;
    }

    private Call leave() {
        Call call = calls.remove(calls.size() - 1);
        if (!calls.isEmpty()) {
            innermost().used += call.used;
        }
        return call;
    }

    private int fail() {
        Call call = leave();
        open = call.before;
        return call.caught || calls.isEmpty() ? 1 : 1 + fail();
    }

    int begin(int limit, boolean caught) {
        if (bad(limit, 0, 10000)) {
            return -1;
        }
        if (calls.size() == 8) {
            return -3;
        }
        Call call = new Call();
        call.limit = limit;
        if (!calls.isEmpty()) {
            if (left() < 1) {
                return -20 - fail();
            }
            innermost().used++;
            call.limit = Math.min(limit, left());
        }
        call.caught = caught;
        call.before = new ArrayList<>(open);
        calls.add(call);
        return calls.size();
    }

    int tell(int account, int a, int b, int c, long value) {
        if (badEvent(account, a, b, c)) {
            return -1;
        }
        if (calls.isEmpty()) {
            return -2;
        }
        if (open.size() == 32) {
            return -3;
        }
        List<Integer> topics = topics(a, b, c);
        int units = 5 + 2 * topics.size();
        if (units > left()) {
            return -20 - fail();
        }
        innermost().used += units;
        open.add(new Event(account, topics, value, told(4)));
        return open.size();
    }

    int end(boolean well) {
        if (calls.isEmpty()) {
            return -2;
        }
        return well ? leave().used : -20 - fail();
    }

    int told(int what) {
        int used = calls.isEmpty() ? 0 : innermost().used;
        int[] answers = {calls.size(), used, left(), open.size(), everClosed + open.size(),
            blocks.size(), subscribers.size()};
        return bad(what, 0, 6) ? -1 : answers[what];
    }

    int close() {
        if (!calls.isEmpty()) {
            return -2;
        }
        if (blocks.size() == 40) {
            return -3;
        }
        Block block = new Block();
        block.events = open;
        blocks.add(block);
        everClosed += open.size();
        open = new ArrayList<>();
        return blocks.size() - 1;
    }

    int back(int n) {
        if (bad(n, 0, blocks.size())) {
            return -1;
        }
        if (!calls.isEmpty()) {
            return -2;
        }
        int gone = 0;
        for (int k = 0; k < n; k++) {
            Block last = blocks.remove(blocks.size() - 1);
            gone += last.kept ? last.events.size() : 0;
        }
        for (Subscriber one : subscribers) {
            if (one.block >= blocks.size()) {
                one.block = blocks.size();
                one.number = 0;
            }
        }
        return gone;
    }

    int prune(int block) {
        if (noBlock(block)) {
            return -1;
        }
        boolean was = blocks.get(block).kept;
        blocks.get(block).kept = false;
        return was ? 1 : 0;
    }

    int size(int block, int what) {
        if (noBlock(block) || bad(what, 0, 1)) {
            return -1;
        }
        Block at = blocks.get(block);
        return what == 0 ? at.events.size() : at.kept ? 1 : 0;
    }

    int event(int block, int i, int what) {
        if (noEvent(block, i) || bad(what, 0, 5)) {
            return -1;
        }
        if (!blocks.get(block).kept) {
            return -4;
        }
        Event event = blocks.get(block).events.get(i);
        int topic = event.topic(what - 2 < 0 ? 0 : what - 2);
        return switch (what) {
            case 0 -> event.account();
            case 1 -> event.topics().size();
            case 5 -> event.serial();
            default -> topic == -1 ? -5 : topic;
        };
    }

    long value(int block, int i) {
        if (noBlock(block)) {
            throw new ArrayIndexOutOfBoundsException();
        }
        if (!blocks.get(block).kept) {
            throw new NullPointerException();
        }
        if (noEvent(block, i)) {
            throw new ArrayIndexOutOfBoundsException();
        }
        return blocks.get(block).events.get(i).value();
    }

    static long leaf(int account, List<Integer> topics, long value, int place) {
        long d = mix(account, value);
        for (int topic : topics) {
            d = mix(d, topic);
        }
        return mix(d, place);
    }

    private static List<Long> leaves(Block block) {
        List<Long> leaves = new ArrayList<>();
        for (Event event : block.events) {
            leaves.add(leaf(event.account(), event.topics(), event.value(), leaves.size()));
        }
        return leaves;
    }

    private static List<Long> above(List<Long> row) {
        List<Long> above = new ArrayList<>();
        for (int k = 0; k < row.size(); k += 2) {
            above.add(k + 1 < row.size() ? (Long) mix(row.get(k), row.get(k + 1)) : row.get(k));
        }
        return above;
    }

    static long top(List<Long> row) {
        return row.isEmpty() ? 0 : row.size() == 1 ? row.get(0) : top(above(row));
    }

    static List<Long> path(List<Long> row, int i) {
        List<Long> path = new ArrayList<>();
        if (row.size() > 1) {
            int beside = i % 2 == 0 ? i + 1 : i - 1;
            if (beside < row.size()) {
                path.add(row.get(beside));
            }
            path.addAll(path(above(row), i / 2));
        }
        return path;
    }

    long root(int block) {
        if (noBlock(block)) {
            throw new ArrayIndexOutOfBoundsException();
        }
        return top(leaves(blocks.get(block)));
    }

    private static long bits(int t) {
        long bits = 0;
        for (int bit : new int[] {t % 64, (7 * t + 3) % 61, (13 * t + 5) % 59}) {
            bits |= 1L << bit;
        }
        return bits;
    }

    long filter(int block) {
        if (noBlock(block)) {
            throw new ArrayIndexOutOfBoundsException();
        }
        long filter = 0;
        for (Event event : blocks.get(block).events) {
            for (int topic : event.topics()) {
                filter |= bits(topic);
            }
        }
        return filter;
    }

    int may(int block, int topic) {
        if (noBlock(block) || bad(topic, 0, 999)) {
            return -1;
        }
        return (bits(topic) & ~filter(block)) == 0 ? 1 : 0;
    }

    int find(int block, int topic, int i) {
        if (noBlock(block) || bad(topic, 0, 999) || i < 0) {
            return -1;
        }
        if (!blocks.get(block).kept) {
            return -4;
        }
        List<Event> events = blocks.get(block).events;
        for (int k = 0; k < events.size(); k++) {
            if (k >= i && events.get(k).topics().contains(topic)) {
                return k;
            }
        }
        return -5;
    }

    int path(int block, int i) {
        if (noEvent(block, i)) {
            return -1;
        }
        if (!blocks.get(block).kept) {
            return -4;
        }
        out = path(leaves(blocks.get(block)), i);
        return out.size();
    }

    long out(int k) {
        if (bad(k, 0, out.size() - 1)) {
            throw new ArrayIndexOutOfBoundsException();
        }
        return out.get(k);
    }

    int lay(long v) {
        if (out.size() == 5) {
            return -3;
        }
        out.add(v);
        return out.size();
    }

    int wipe() {
        int had = out.size();
        out = new ArrayList<>();
        return had;
    }

    int proved(int block, int i, int account, int a, int b, int c, long value) {
        if (noEvent(block, i) || badEvent(account, a, b, c)) {
            return -1;
        }
        List<Long> path = new ArrayList<>(out);
        int width = blocks.get(block).events.size();
        if (path.size() != path(leaves(blocks.get(block)), i).size()) {
            return 0;
        }
        long digest = leaf(account, topics(a, b, c), value, i);
        for (int place = i; width > 1; width = (width + 1) / 2, place = place / 2) {
            if (place % 2 == 1) {
                digest = mix(path.remove(0), digest);
            } else if (place + 1 < width) {
                digest = mix(digest, path.remove(0));
            }
        }
        return digest == root(block) ? 1 : 0;
    }

    int subscribe(int topic, int block) {
        if (bad(topic, -1, 999) || bad(block, 0, blocks.size())) {
            return -1;
        }
        if (subscribers.size() == 8) {
            return -3;
        }
        Subscriber one = new Subscriber();
        one.topic = topic;
        one.block = block;
        subscribers.add(one);
        return subscribers.size() - 1;
    }

    int next(int subscriber) {
        if (bad(subscriber, 0, subscribers.size() - 1)) {
            return -1;
        }
        Subscriber one = subscribers.get(subscriber);
        for (int b = 0; b < blocks.size(); b++) {
            List<Event> events = blocks.get(b).kept ? blocks.get(b).events : List.of();
            for (int k = 0; k < events.size(); k++) {
                boolean reached = b > one.block || b == one.block && k >= one.number;
                if (reached && (one.topic == -1 || events.get(k).topics().contains(one.topic))) {
                    one.block = b;
                    one.number = k + 1;
                    return 100 * b + k;
                }
            }
        }
        one.block = blocks.size();
        one.number = 0;
        return -5;
    }

    int place(int subscriber) {
        if (bad(subscriber, 0, subscribers.size() - 1)) {
            return -1;
        }
        return 100 * subscribers.get(subscriber).block + subscribers.get(subscriber).number;
    }
}

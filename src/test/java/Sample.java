import java.util.ArrayList;
import java.util.List;

/** Events to tell: number i has its own first topic, and one, two or three topics in turn. */
final class Sample {
    private Sample() {
    }

    static int account(int i) {
        return i % 10;
    }

    static int a(int i) {
        return i;
    }

    static int b(int i) {
        return i % 3 == 0 ? -1 : 100 + i;
    }

    static int c(int i) {
        return i % 3 == 2 ? 200 + i : -1;
    }

    static long value(int i) {
        return 1000L * i - 7;
    }

    static int tell(Rows x, int i) {
        return x.tell(account(i), a(i), b(i), c(i), value(i));
    }

    /** So many events from number 0 on, in a call that ends well. */
    static void tellMany(Rows x, int many) {
        x.begin(10000, false);
        for (int i = 0; i < many; i++) {
            tell(x, i);
        }
        x.end(true);
    }

    static int closeMany(Rows x, int many) {
        tellMany(x, many);
        return x.close();
    }

    static Rows ofBlock(int many) {
        Rows x = new Rows();
        closeMany(x, many);
        return x;
    }

    /** An event for each first topic, in a block of their own; a second topic is 50 more. */
    static int closeTopics(Rows x, int... topics) {
        x.begin(10000, false);
        for (int topic : topics) {
            x.tell(1, topic, topic + 50, -1, topic);
        }
        x.end(true);
        return x.close();
    }

    static int proved(Rows x, int block, int i) {
        return x.proved(block, i, account(i), a(i), b(i), c(i), value(i));
    }

    static long leaf(int i) {
        return Model.leaf(account(i), Model.topics(a(i), b(i), c(i)), value(i), i);
    }

    static List<Long> leaves(int many) {
        List<Long> leaves = new ArrayList<>();
        for (int i = 0; i < many; i++) {
            leaves.add(leaf(i));
        }
        return leaves;
    }
}

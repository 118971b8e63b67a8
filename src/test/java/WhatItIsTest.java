import java.util.ArrayList;
import java.util.List;

/** The section 'What it is', from the document's first line: what all calls together are for. */
public final class WhatItIsTest {
    private static final int BAD = -1, GONE = -4, NONE = -5;
    private static final Due DUE = new Due("WhatItIsTest");

    public static void main(String[] args) {
        toldInOrder();
        withinLimits();
        undoneUpToOneThatIsCaught();
        theFilterNeverMisses();
        toldOnceToEachSubscriber();
        goneWithBlocksThatAreTakenBack();
        provedWhenNoLongerKept();
        usedFor512Calls();
        DUE.end();
    }

    private static void toldInOrder() {
        DUE.sentence("What it is", "Events that calls tell, in blocks: told in order");
        Rows x = new Rows();
        int told = 0;
        for (int block = 0; block < 4; block++) {
            for (int depth = 1; depth <= 8; depth++) {
                x.begin(1000, false);
                x.tell(1, 1, -1, -1, told++);
            }
            for (int depth = 8; depth >= 1; depth--) {
                x.tell(1, 1, -1, -1, told++);
                x.end(true);
            }
            x.close();
        }
        for (int k = 0; k < told; k++) {
            DUE.is("value(" + k / 16 + ", " + k % 16 + ")", x.value(k / 16, k % 16), k);
            DUE.is("event(" + k / 16 + ", " + k % 16 + ", 5)", x.event(k / 16, k % 16, 5), k);
        }
    }

    private static void withinLimits() {
        DUE.sentence("What it is", "within limits");
        // An event with one topic is of 7 units.
        for (int limit = 0; limit <= 32 * 7; limit++) {
            Rows x = new Rows();
            x.begin(limit, false);
            for (int many = 1; many <= limit / 7; many++) {
                DUE.is("tell, number " + many + " of " + limit + " units", x.tell(0, 0, -1, -1, 0), many);
            }
            if (limit < 32 * 7) {
                DUE.is("tell, more than " + limit + " units", x.tell(0, 0, -1, -1, 0), -21);
            }
        }
    }

    private static void undoneUpToOneThatIsCaught() {
        DUE.sentence("What it is", "undone with a call that fails or uses too much, up to one that is caught");
        for (boolean fails : new boolean[] {true, false}) {
            for (int caught = 2; caught <= 8; caught++) {
                Rows x = new Rows();
                for (int depth = 1; depth <= 8; depth++) {
                    x.begin(8 * (9 - depth), depth == caught);
                    x.tell(depth, depth, -1, -1, depth);
                }
                int got = fails ? x.end(false) : x.tell(0, 0, -1, -1, 0);
                DUE.is("it fails, number " + caught + " is caught", got, -20 - (9 - caught));
                DUE.is("told(3), those before it are there", x.told(3), caught - 1);
                for (int depth = caught - 1; depth >= 1; depth--) {
                    x.end(true);
                }
                x.close();
                for (int i = 0; i < caught - 1; i++) {
                    DUE.is("value(0, " + i + ")", x.value(0, i), i + 1);
                }
            }
        }
    }

    private static void theFilterNeverMisses() {
        DUE.sentence("What it is", "found by topics with a filter that never misses");
        for (int topic = 0; topic <= 999; topic++) {
            for (int at = 0; at < 3; at++) {
                int other = (topic + 1) % 1000;
                Rows x = new Rows();
                x.begin(100, false);
                x.tell(0, other, -1, -1, 0);
                x.tell(0, at == 0 ? topic : other, at == 1 ? topic : other, at == 2 ? topic : other, 0);
                x.end(true);
                x.close();
                DUE.is("may(0, " + topic + "), topic number " + at, x.may(0, topic), 1);
                DUE.is("find(0, " + topic + ", 0), topic number " + at, x.find(0, topic, 0), 1);
            }
        }
    }

    /** Subscriber 0 takes any topic, number t + 1 topic t; they ask when two more blocks are there. */
    private static void toldOnceToEachSubscriber() {
        DUE.sentence("What it is", "told once to each subscriber");
        Rows x = new Rows();
        for (int topic = -1; topic < 6; topic++) {
            x.subscribe(topic, 0);
        }
        List<List<Integer>> due = new ArrayList<>();
        for (int subscriber = 0; subscriber < 7; subscriber++) {
            due.add(new ArrayList<>());
        }
        for (int block = 0; block < 6; block++) {
            x.begin(1000, false);
            for (int i = 0; i < 4; i++) {
                int topic = (4 * block + i) % 5;
                int second = (block + i) % 2 == 0 ? 5 : topic;
                x.tell(0, topic, second, -1, 0);
                due.get(0).add(100 * block + i);
                due.get(topic + 1).add(100 * block + i);
                if (second == 5) {
                    due.get(6).add(100 * block + i);
                }
            }
            x.end(true);
            x.close();
            if (block % 2 == 1) {
                eachIsTold(x, due);
            }
        }
    }

    private static void eachIsTold(Rows x, List<List<Integer>> due) {
        for (int subscriber = 0; subscriber < due.size(); subscriber++) {
            for (int event : due.get(subscriber)) {
                DUE.is("next(" + subscriber + ")", x.next(subscriber), event);
            }
            DUE.is("next(" + subscriber + "), all were told", x.next(subscriber), NONE);
            due.get(subscriber).clear();
        }
    }

    private static void goneWithBlocksThatAreTakenBack() {
        DUE.sentence("What it is", "gone with blocks that are taken back");
        for (int n = 1; n <= 4; n++) {
            Rows x = new Rows();
            x.subscribe(-1, 0);
            for (int block = 0; block < 4; block++) {
                Sample.closeMany(x, 2);
            }
            x.back(n);
            for (int block = 0; block < 4; block++) {
                boolean there = block < 4 - n;
                DUE.is("event(" + block + ", 1, 2)", x.event(block, 1, 2), there ? Sample.a(1) : BAD);
                DUE.is("find(" + block + ", 1, 0)", x.find(block, 1, 0), there ? 1 : BAD);
            }
            for (int block = 0; block < 4 - n; block++) {
                DUE.is("next(0)", x.next(0), 100 * block);
                DUE.is("next(0)", x.next(0), 100 * block + 1);
            }
            DUE.is("next(0), no event that went", x.next(0), NONE);
        }
    }

    private static void provedWhenNoLongerKept() {
        DUE.sentence("What it is", "proved by a tree of digests when a block's rows are no longer kept");
        for (int many = 1; many <= 32; many++) {
            Rows x = Sample.ofBlock(many);
            List<List<Long>> paths = new ArrayList<>();
            for (int i = 0; i < many; i++) {
                List<Long> path = new ArrayList<>();
                int needed = x.path(0, i);
                for (int k = 0; k < needed; k++) {
                    path.add(x.out(k));
                }
                paths.add(path);
            }
            Rows pruned = Sample.ofBlock(many);
            pruned.prune(0);
            for (int i = 0; i < many; i++) {
                pruned.wipe();
                for (long digest : paths.get(i)) {
                    pruned.lay(digest);
                }
                DUE.is("event(0, " + i + ", 0), no longer kept", pruned.event(0, i, 0), GONE);
                DUE.is("proved, " + i + " of " + many, Sample.proved(pruned, 0, i), 1);
                DUE.is("proved, not another account", pruned.proved(0, i, (Sample.account(i) + 1) % 10, Sample.a(i),
                        Sample.b(i), Sample.c(i), Sample.value(i)), 0);
            }
        }
    }

    private static void usedFor512Calls() {
        DUE.sentence("What it is", "An object is used for at most 512 calls after it has been made");
        Rows x = new Rows();
        for (int times = 0; times < 102; times++) {
            DUE.is("begin", x.begin(7, false), 1);
            DUE.is("tell", x.tell(0, 5, -1, -1, times), 1);
            DUE.is("end", x.end(true), 7);
            DUE.is("close", x.close(), 0);
            DUE.is("back", x.back(1), 1);
        }
        DUE.is("told(4), the 511th call", x.told(4), 102);
        DUE.is("close(), the 512th call", x.close(), 0);
        DUE.is("calls", x.calls(), Rows.MOST_CALLS);
    }
}

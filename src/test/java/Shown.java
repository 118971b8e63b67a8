/** All that later calls show of an object, as one text. */
final class Shown {
    private final Rows x;
    private final StringBuilder text = new StringBuilder();

    private Shown(Rows x) {
        this.x = x;
    }

    /**
     * The calls that only ask come first, those that change the object last; none of them is refused,
     * as that would hide what an earlier refusal did. Calls that end well show the units and the
     * events, calls that fail show which of them are caught: hence both ways.
     */
    static String by(Rows x, boolean well) {
        Shown shown = new Shown(x);
        shown.counts();
        shown.blocks();
        shown.subscribers();
        shown.openCalls(well);
        shown.openBlock();
        shown.out();
        return shown.text.toString();
    }

    private void add(String what, Due.Call call) {
        text.append(what).append(' ').append(Due.answerOf(call)).append("; ");
    }

    private void counts() {
        for (int what = 0; what <= 6; what++) {
            int asked = what;
            add("told(" + what + ")", () -> x.told(asked));
        }
    }

    private void blocks() {
        int many = x.told(5);
        for (int block = 0; block < many; block++) {
            block(block);
        }
    }

    private void block(int block) {
        int size = x.size(block, 0);
        int kept = x.size(block, 1);
        text.append("block ").append(block).append(": ").append(size).append(' ').append(kept).append("; ");
        add("root", () -> x.root(block));
        add("filter", () -> x.filter(block));
        for (int i = 0; i < size && kept == 1; i++) {
            event(block, i);
        }
    }

    private void event(int block, int i) {
        for (int what = 0; what <= 5; what++) {
            int asked = what;
            add("event(" + block + ", " + i + ", " + what + ")", () -> x.event(block, i, asked));
        }
        add("value(" + block + ", " + i + ")", () -> x.value(block, i));
    }

    private void subscribers() {
        int many = x.told(6);
        for (int number = 0; number < many; number++) {
            int subscriber = number;
            add("place(" + number + ")", () -> x.place(subscriber));
            int found = 0;
            for (int times = 0; times < 8 && found >= 0; times++) {
                found = x.next(number);
                text.append("next(").append(number).append(") ").append(found).append("; ");
            }
        }
    }

    private void openCalls(boolean well) {
        for (int depth = x.told(0); depth > 0; depth = x.told(0)) {
            add("depth " + depth + ", told(1)", () -> x.told(1));
            add("told(2)", () -> x.told(2));
            add("end", () -> x.end(well));
        }
    }

    /** Where 40 blocks are there, one has to go before the open one can be closed and looked at. */
    private void openBlock() {
        if (x.told(5) == 40) {
            add("back(1)", () -> x.back(1));
        }
        int number = x.close();
        text.append("close ").append(number).append("; ");
        block(number);
        add("told(4)", () -> x.told(4));
    }

    /** Last of all, as only a call that throws tells where OUT ends. */
    private void out() {
        String got = "";
        for (int k = 0; k <= 5 && !got.startsWith("java"); k++) {
            int asked = k;
            got = Due.answerOf(() -> x.out(asked));
            text.append("out(").append(k).append(") ").append(got).append("; ");
        }
        add("wipe", x::wipe);
    }
}

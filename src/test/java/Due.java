/** Counts and prints the answers that are not as due, each with the document's sentence that it breaks. */
final class Due {
    /** A call whose answer is looked at. */
    interface Call {
        long answer();
    }

    /** A call on an object that is in a state. */
    interface Act {
        long on(Rows x);
    }

    /** What brings a new object into a state. */
    interface State {
        void of(Rows x);
    }

    /** Far above what any test class needs, also on a slow machine. */
    private static final long MOST_MILLISECONDS = 300_000;

    private final String name;
    private volatile String sentence = "";
    private int wrong;

    Due(String name) {
        this.name = name;
        Thread watch = new Thread(this::failWhenLate);
        watch.setDaemon(true);
        watch.start();
    }

    /** A call that does not end is a failure, not a test that is waited for. */
    private void failWhenLate() {
        try {
            Thread.sleep(MOST_MILLISECONDS);
        } catch (InterruptedException e) {
            return;
        }
        System.out.println(name + sentence + ": a call does not end");
        Runtime.getRuntime().halt(1);
    }

    /** From here on the answers are held against this sentence of the document. */
    void sentence(String where, String text) {
        sentence = ", " + where + ", '" + text + "'";
    }

    void is(String call, long got, long want) {
        if (got != want) {
            report(call + " answered " + got + ", due is " + want);
        }
    }

    /** The exception must be just of that class, and come from a throw statement, not from the machine. */
    void isThrown(String call, Class<? extends RuntimeException> want, Call tried) {
        String got = answerOf(tried);
        if (!got.equals(want.getName())) {
            report(call + " answered " + got + ", due is " + want.getName());
        }
    }

    /** The call is refused in this state, and nothing that later calls show is changed by it. */
    void refuses(State state, String call, long want, Act act) {
        Rows x = made(state);
        is(call, act.on(x), want);
        is(call + ", said again", act.on(x), want);
        changesNothing(state, call, act);
    }

    /** Likewise, of a call that refuses by an exception. */
    void refuses(State state, String call, Class<? extends RuntimeException> want, Act act) {
        Rows x = made(state);
        isThrown(call, want, () -> act.on(x));
        changesNothing(state, call, act);
    }

    /** An object on which the call was made shows in all later calls what one without it shows. */
    void changesNothing(State state, String call, Act act) {
        for (boolean well : new boolean[] {true, false}) {
            Rows x = made(state);
            answerOf(() -> act.on(x));
            String got = Shown.by(x, well);
            String want = Shown.by(made(state), well);
            if (!got.equals(want)) {
                report(call + " changed what later calls show:\n  " + got + "\n  due is\n  " + want);
            }
        }
    }

    private static Rows made(State state) {
        Rows x = new Rows();
        state.of(x);
        return x;
    }

    /** The answer, or the name of the exception; what the machine itself throws is never as due. */
    static String answerOf(Call call) {
        try {
            return "" + call.answer();
        } catch (RuntimeException e) {
            return isOfMachine(e) ? "machine's " + e : e.getClass().getName();
        }
    }

    private static boolean isOfMachine(RuntimeException e) {
        String text = e.getMessage() == null ? "" : e.getMessage();
        return text.startsWith("Index ") || text.startsWith("Cannot ");
    }

    void report(String text) {
        wrong++;
        System.out.println(name + sentence + ": " + text);
    }

    void end() {
        System.out.println(wrong == 0 ? "all answers are as due" : wrong + " answers are not as due");
        if (wrong != 0) {
            System.exit(1);
        }
    }
}

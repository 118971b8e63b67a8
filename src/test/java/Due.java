/** Counts and prints the answers that are not as due. */
final class Due {
    interface Call {
        long answer();
    }

    private final String name;
    private int wrong;

    Due(String name) {
        this.name = name;
    }

    void is(String call, long got, long want) {
        if (got != want) {
            report(call + " answered " + got + ", due is " + want);
        }
    }

    /** The exception must be just of that class, and come from a throw statement, not from the machine. */
    void isThrown(String call, Class<? extends RuntimeException> want, Call tried) {
        try {
            report(call + " answered " + tried.answer() + ", due is " + want.getSimpleName());
        } catch (RuntimeException e) {
            if (e.getClass() != want) {
                report(call + " threw " + e + ", due is " + want.getSimpleName());
            } else if (isOfMachine(e)) {
                report(call + " let the machine throw: " + e.getMessage());
            }
        }
    }

    static boolean isOfMachine(RuntimeException e) {
        String text = e.getMessage() == null ? "" : e.getMessage();
        return text.startsWith("Index ") || text.startsWith("Cannot ");
    }

    void report(String text) {
        wrong++;
        System.out.println(name + ": " + text);
    }

    void end() {
        System.out.println(wrong == 0 ? "all answers are as due" : wrong + " answers are not as due");
        if (wrong != 0) {
            System.exit(1);
        }
    }
}

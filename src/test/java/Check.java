/** Counts and prints the answers that are not as due. */
final class Check {
    /** Stands for an answer that is an ArithmeticException. */
    static final long THROWS = Long.MIN_VALUE;

    interface Call {
        long answer();
    }

    private int checked = 0;
    private int wrong = 0;
    private String part = "";

    void begin(String name) {
        part = name;
    }

    static long answerOf(Call call) {
        try {
            return call.answer();
        } catch (ArithmeticException e) {
            return isFromThrow(e) ? THROWS : Long.MAX_VALUE;
        }
    }

    /** The machine's own exception of a division is a fault, not an answer. */
    private static boolean isFromThrow(ArithmeticException e) {
        return e.getMessage() == null || !e.getMessage().contains("by zero");
    }

    void due(String what, long want, Call call) {
        due(what, want, answerOf(call));
    }

    void due(String what, long want, long got) {
        checked++;
        if (got != want) {
            wrong++;
            if (wrong <= 50) {
                System.out.println(part + ": " + what + " answered " + told(got) + ", due is " + told(want));
            }
        }
    }

    private static String told(long answer) {
        return answer == THROWS ? "throws.ArithmeticException" : Long.toString(answer);
    }

    void end() {
        System.out.println(checked + " answers, " + wrong + " not as due");
        if (wrong != 0) {
            System.exit(1);
        }
    }
}

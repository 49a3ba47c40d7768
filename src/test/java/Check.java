/** Counts answers that are due, and tells those that are not. */
final class Check {
    /** A call of the program; its answer may be of any kind. */
    interface Call {
        Object answer();
    }

    private final String title;
    private int right = 0;
    private int wrong = 0;

    Check(String title) {
        this.title = title;
    }

    void due(String what, Object got, Object want) {
        if (String.valueOf(got).equals(String.valueOf(want))) {
            right++;
        } else {
            wrong++;
            if (wrong <= 40) {
                System.out.println(title + ": " + what + " answered " + got + ", due is " + want);
            }
        }
    }

    void dueCall(String what, Call call, Object want) {
        due(what, answerOf(call), want);
    }

    /** An exception answers with its name behind throws. */
    static String answerOf(Call call) {
        try {
            return String.valueOf(call.answer());
        } catch (RuntimeException e) {
            return "throws." + e.getClass().getSimpleName();
        }
    }

    int wrongOnes() {
        return wrong;
    }

    void end() {
        System.out.println(title + ": " + right + " answers as due, " + wrong + " not");
        if (wrong > 0 || right == 0) {
            System.exit(1);
        }
    }
}

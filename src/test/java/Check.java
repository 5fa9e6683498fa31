/** Counts and prints the calls whose answer is not the one that is due. */
final class Check {
    interface Call {
        Object answer();
    }

    private final String title;
    private int made;
    private int wrong;

    Check(String title) {
        this.title = title;
    }

    /** What a call answers, as text; the exact class of what it throws behind "throws.". */
    static String answerOf(Call call) {
        try {
            return String.valueOf(call.answer());
        } catch (RuntimeException e) {
            return "throws." + e.getClass().getSimpleName();
        }
    }

    void due(String what, Object want, Call call) {
        String got = answerOf(call);
        made++;
        if (!got.equals(String.valueOf(want))) {
            wrong++;
            System.out.println(what + ": answered " + got + ", due is " + want);
        }
    }

    /** Ends the program, with exit code 1 if an answer was wrong. */
    void end() {
        System.out.println(title + ": " + made + " answers, " + wrong + " wrong");
        System.exit(wrong == 0 && made > 0 ? 0 : 1);
    }
}

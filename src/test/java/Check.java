/** Compares answers with those that are due, tells each wrong one, and ends a test. */
final class Check {
    private int answers;
    private int wrong;

    void is(String what, long got, long due) {
        answers++;
        if (got != due) {
            wrong++;
            System.out.println(what + ": answered " + got + " (" + Long.toHexString(got) + "h), due is "
                    + due + " (" + Long.toHexString(due) + "h)");
        }
    }

    void is(String what, boolean got, boolean due) {
        is(what, got ? 1 : 0, due ? 1 : 0);
    }

    void isTrue(String what, boolean got) {
        is(what, got, true);
    }

    boolean holds() {
        return answers > 0 && wrong == 0;
    }

    void end() {
        System.out.println(answers + " answers, " + wrong + " wrong");
        if (!holds()) {
            System.exit(1);
        }
    }
}

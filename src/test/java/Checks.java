/** Compares answers with those that are due, and ends the test accordingly. */
final class Checks {
    private int right = 0;
    private int wrong = 0;

    void due(String call, long got, long want) {
        if (got == want) {
            right++;
        } else {
            wrong++;
            System.out.println(call + " answered " + got + ", due is " + want);
        }
    }

    void due(String call, boolean got, boolean want) {
        due(call, got ? 1 : 0, want ? 1 : 0);
    }

    void dueText(String what, String got, String want) {
        if (!got.equals(want)) {
            System.out.println(what + " is " + got + ", due is " + want);
        }
        due(what + " is as due", got.equals(want), true);
    }

    boolean allRight() {
        return wrong == 0;
    }

    void end() {
        System.out.println(right + " answers as due, " + wrong + " not");
        if (wrong != 0) {
            System.exit(1);
        }
    }
}

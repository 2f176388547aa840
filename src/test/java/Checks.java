/** Compares answers with those that are due, and ends the test accordingly. */
final class Checks {
    static final int NONE = -1;
    static final int LEAST = Integer.MIN_VALUE;
    static final int MOST = Integer.MAX_VALUE;
    static final int[] NO_SECTIONS = {-1, 4, -2, 5, -4, 256, LEAST, LEAST + 1, MOST - 1, MOST};

    private String sentence = "";
    private int right = 0;
    private int wrong = 0;

    /** The document's sentence that the comparisons from here on belong to; each wrong answer names it. */
    void says(String words) {
        sentence = "\"" + words + "\": ";
    }

    void due(String call, long got, long want) {
        if (got == want) {
            right++;
        } else {
            wrong++;
            System.out.println(sentence + call + " answered " + got + ", due is " + want);
        }
    }

    void due(String call, boolean got, boolean want) {
        due(call, got ? 1 : 0, want ? 1 : 0);
    }

    void dueText(String what, String got, String want) {
        if (!got.equals(want)) {
            System.out.println(what + " is " + got + ", due is " + want);
        }
        due(what + " is as due", got.equals(want), true);
    }

    /** What 0, 1, .. of statement k are the given ones. */
    void statement(String name, BranchLayout x, int k, int... want) {
        for (int what = 0; what < want.length; what++) {
            due(name + ": statement(" + k + ", " + what + ")", x.statement(k, what), want[what]);
        }
    }

    void place(String name, BranchLayout x, int label, int want) {
        due(name + ": place(" + label + ")", x.place(label), want);
    }

    void sizes(String name, BranchLayout x, int... want) {
        for (int section = 0; section < want.length; section++) {
            due(name + ": size(" + section + ")", x.size(section), want[section]);
        }
    }

    /** No call of this changes the object, so it may be asked at any time. */
    void empty(String name, BranchLayout x) {
        for (int number : new int[] {0, 1, 2, 511, 1023, 1024, 4095, 4096, -1, -2, LEAST, MOST}) {
            statement(name, x, number, NONE, NONE, NONE, NONE, NONE);
            place(name, x, number, NONE);
        }
        sizes(name, x, 0, 0, 0, 0, NONE);
        due(name + ": go(0, 0, 0)", x.go(0, 0, 0), false);
        due(name + ": go(0, -2, 0)", x.go(0, -2, 0), false);
    }

    boolean allRight() {
        return wrong == 0;
    }

    void end() {
        System.out.println(right + " answers as due, " + wrong + " not");
        if (wrong != 0) {
            System.exit(1);
        }
    }
}

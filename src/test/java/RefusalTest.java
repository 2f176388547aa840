import java.util.ArrayList;
import java.util.List;

/**
 * Every call with every pair of strange arguments, in objects of several states: what is refused is answered
 * so and changes nothing, what is not gets the next number, and nothing is thrown.
 */
public final class RefusalTest {
    private static final int NONE = Checks.NONE;
    private static final int[] STRANGE = {
        Checks.LEAST, Checks.LEAST + 1, Checks.LEAST + 2, -65536, -4098, -4096, -1026, -9, -8, -7, -6, -5, -4, -3, -2, -1,
        0, 1, 2, 3, 4, 5, 6, 7, 8, 9, 1023, 1024, 1025, 4095, 4096, 4097, 65535, 65536, 65537,
        1 << 30, Checks.MOST - 1, Checks.MOST,
    };

    private static final Checks CHECKS = new Checks();

    public static void main(String[] args) {
        for (State state : State.values()) {
            CHECKS.says("a refused call changes nothing, " + state);
            List<Integer> untouched = answers(state.made());
            for (int a : STRANGE) {
                label(state, a, untouched);
                asked(state, a, untouched);
                for (int b : STRANGE) {
                    statements(state, a, b, untouched);
                    go(state, a, b, untouched);
                }
            }
        }
        CHECKS.end();
    }

    private enum State {
        NEW, CLEARED, NOT_LAID_OUT, LAID_OUT, WITH_SOME_BEHIND;

        BranchLayout made() {
            BranchLayout x = new BranchLayout();
            if (this == NEW) {
                return x;
            }
            fill(x);
            if (this == LAID_OUT || this == WITH_SOME_BEHIND || this == CLEARED) {
                x.relax();
            }
            if (this == WITH_SOME_BEHIND) {
                x.branch(0, 6);
                x.go(4, 1, 2);
                x.go(1, -2, 3);
                x.label(0);
            }
            if (this == CLEARED) {
                x.clear();
            }
            return x;
        }

        int statementCount() {
            return this == NEW || this == CLEARED ? 0 : this == WITH_SOME_BEHIND ? 5 : 4;
        }

        int labelCount() {
            return this == NEW || this == CLEARED ? 0 : this == WITH_SOME_BEHIND ? 3 : 2;
        }

        private static void fill(BranchLayout x) {
            x.bytes(0, 7);
            x.branch(0, 5);
            x.label(3);
            x.align(0, 16);
            x.branch(3, 6);
            x.label(0);
            x.go(1, 1, -1);
        }
    }

    /** All that can be told of an object with at most 7 statements and labels, and then of it laid out anew. */
    private static List<Integer> answers(BranchLayout x) {
        List<Integer> told = new ArrayList<>();
        for (int time = 0; time < 2; time++) {
            for (int k = -1; k <= 7; k++) {
                for (int what = -1; what <= 4; what++) {
                    told.add(x.statement(k, what));
                }
                told.add(x.place(k));
                told.add(x.size(k));
            }
            told.add(x.relax());
        }
        told.add(x.bytes(0, 0));
        told.add(x.label(0));
        return told;
    }

    private static void untouched(String call, BranchLayout x, List<Integer> want) {
        CHECKS.due("behind " + call + " all is as before", answers(x).equals(want), true);
    }

    private static void number(String call, BranchLayout x, int got, boolean right, int next, List<Integer> untouched) {
        CHECKS.due(call, got, right ? next : NONE);
        if (!right) {
            untouched(call, x, untouched);
        }
    }

    private static boolean isSection(int section) {
        return section >= 0 && section <= 3;
    }

    private static void label(State state, int section, List<Integer> untouched) {
        BranchLayout x = state.made();
        number("label(" + section + ")", x, x.label(section), isSection(section), state.labelCount(), untouched);
    }

    private static void statements(State state, int section, int n, List<Integer> untouched) {
        String arguments = "(" + section + ", " + n + ")";
        int next = state.statementCount();
        BranchLayout x = state.made();
        boolean isBytes = isSection(section) && n >= 0 && n <= 65536;
        number("bytes" + arguments, x, x.bytes(section, n), isBytes, next, untouched);
        BranchLayout y = state.made();
        boolean isAlign = isSection(section) && List.of(1, 2, 4, 8, 1024, 4096).contains(n);
        number("align" + arguments, y, y.align(section, n), isAlign, next, untouched);
        BranchLayout z = state.made();
        boolean isBranch = isSection(section) && (n == 5 || n == 6);
        number("branch" + arguments, z, z.branch(section, n), isBranch, next, untouched);
    }

    private static void asked(State state, int number, List<Integer> untouched) {
        BranchLayout x = state.made();
        for (int what : STRANGE) {
            boolean none = number < 0 || number >= state.statementCount() || what < 0 || what > 3;
            // A distance may be -1 too, so only what must be NONE is looked at.
            int got = x.statement(number, what);
            CHECKS.due("statement(" + number + ", " + what + ")", none ? got : NONE, NONE);
        }
        boolean isLabel = number >= 0 && number < state.labelCount();
        CHECKS.due("place(" + number + ") is there", x.place(number) != NONE, isLabel);
        CHECKS.due("size(" + number + ") is there", x.size(number) != NONE, isSection(number));
        untouched("asking for " + number, x, untouched);
    }

    private static void go(State state, int k, int place, List<Integer> untouched) {
        int[] sections = {0, 0, 0, 3, 0};
        int[] labelSections = {3, 0, 0};
        boolean isBranch = k < state.statementCount() && (k == 1 || k == 3 || k == 4);
        boolean right = false;
        for (int i = 0; isBranch && i < state.statementCount(); i++) {
            right |= place == -2 - i && sections[i] == sections[k];
        }
        for (int i = 0; isBranch && i < state.labelCount(); i++) {
            right |= place == i && labelSections[i] == sections[k];
        }
        for (int more : new int[] {0, Checks.LEAST, Checks.MOST}) {
            String call = "go(" + k + ", " + place + ", " + more + ")";
            BranchLayout x = state.made();
            CHECKS.due(call, x.go(k, place, more), right);
            if (!right) {
                untouched(call, x, untouched);
            }
        }
    }
}

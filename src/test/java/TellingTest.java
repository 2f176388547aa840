/** Promises 9 to 11, sentence by sentence: what is told of statements, labels and sections. */
public final class TellingTest {
    private static final int NONE = Checks.NONE;
    private static final int LEAST = Checks.LEAST;
    private static final int MOST = Checks.MOST;

    private static final Checks CHECKS = new Checks();

    public static void main(String[] args) {
        statementAsLaidOutLatest();
        statementBehindThat();
        statementWhere();
        statementBytes();
        statementShort();
        statementDistance();
        noSuchStatement();
        noSuchWhat();
        placeAsLaidOutLatest();
        placeBehindThat();
        noSuchLabel();
        sizeAsLaidOutLatest();
        sizeOfWhatIsEmpty();
        noSuchSection();
        tellingChangesNothing();
        CHECKS.end();
    }

    /** Statements 0 to 4: bytes, bytes, a long branch, an alignment and a short branch. */
    private static BranchLayout oneOfEach() {
        BranchLayout x = new BranchLayout();
        x.bytes(0, 4);
        x.bytes(1, 9);
        x.branch(0, 5);
        x.align(1, 4);
        x.branch(1, 6);
        x.go(4, -3, 0);
        CHECKS.due("one of each: relax()", x.relax(), 1);
        return x;
    }

    private static void statementAsLaidOutLatest() {
        CHECKS.says("Promise 9: Of statement k as it was laid out latest");
        BranchLayout x = oneOfEach();
        for (int time = 0; time < 2; time++) {
            CHECKS.statement("bytes", x, 0, 0, 4, 0, 0);
            CHECKS.statement("bytes", x, 1, 0, 9, 0, 0);
            CHECKS.statement("a long branch", x, 2, 4, 5, 0, 0);
            CHECKS.statement("an alignment", x, 3, 9, 3, 0, 0);
            CHECKS.statement("a short branch", x, 4, 12, 2, 1, -14);
            // None of these is laid out when all is asked for the second time.
            x.go(2, -2, 0);
            x.go(4, -3, MOST);
            x.bytes(0, 1);
            x.label(1);
        }
        CHECKS.due("laid out anew: relax()", x.relax(), 1);
        CHECKS.statement("now short", x, 2, 4, 2, 1, -6);
        CHECKS.statement("now long", x, 4, 12, 6, 0, 0);
        CHECKS.statement("now there", x, 5, 6, 1, 0, 0);
    }

    private static void statementBehindThat() {
        CHECKS.says("Promise 9: 0 for those that came behind that");
        BranchLayout x = new BranchLayout();
        x.bytes(0, 4);
        x.branch(0, 5);
        x.label(0);
        x.go(1, 0, 5);
        CHECKS.statement("never laid out", x, 0, 0, 0, 0, 0, NONE);
        CHECKS.statement("never laid out", x, 1, 0, 0, 0, 0, NONE);
        x.relax();
        x.bytes(0, 8);
        x.align(0, 64);
        x.branch(0, 6);
        x.branch(0, 6);
        x.go(5, 0, 3);
        for (int k = 2; k < 6; k++) {
            CHECKS.statement("behind the layout", x, k, 0, 0, 0, 0, NONE);
        }
        CHECKS.statement("the last before it", x, 1, 4, 2, 1, 5);
        CHECKS.statement("none behind it", x, 6, NONE, NONE, NONE, NONE, NONE);
        CHECKS.due("laid out anew: relax()", x.relax(), 1);
        CHECKS.statement("laid out anew", x, 2, 6, 8, 0, 0);
        CHECKS.statement("laid out anew", x, 3, 14, 50, 0, 0);
        CHECKS.statement("laid out anew", x, 4, 64, 6, 0, 0);
        CHECKS.statement("laid out anew", x, 5, 70, 2, 1, 6 + 3 - 72);
        x.clear();
        x.relax();
        x.branch(0, 5);
        CHECKS.statement("behind the layout of nothing", x, 0, 0, 0, 0, 0, NONE);
    }

    private static void statementWhere() {
        CHECKS.says("Promise 9: what 0: where it stands");
        BranchLayout x = oneOfEach();
        int[] want = {0, 0, 4, 9, 12};
        for (int k = 0; k < 5; k++) {
            CHECKS.due("statement(" + k + ", 0)", x.statement(k, 0), want[k]);
        }
    }

    private static void statementBytes() {
        CHECKS.says("Promise 9: what 1: how many bytes it has");
        BranchLayout x = oneOfEach();
        int[] want = {4, 9, 5, 3, 2};
        for (int k = 0; k < 5; k++) {
            CHECKS.due("statement(" + k + ", 1)", x.statement(k, 1), want[k]);
        }
        x.bytes(0, 0);
        x.align(1, 1);
        x.bytes(2, 65536);
        x.relax();
        CHECKS.due("no bytes", x.statement(5, 1), 0);
        CHECKS.due("an alignment of none", x.statement(6, 1), 0);
        CHECKS.due("the most", x.statement(7, 1), 65536);
    }

    private static void statementShort() {
        CHECKS.says("Promise 9: what 2: 1 if it is a short branch, else 0");
        BranchLayout x = oneOfEach();
        int[] want = {0, 0, 0, 0, 1};
        for (int k = 0; k < 5; k++) {
            CHECKS.due("statement(" + k + ", 2)", x.statement(k, 2), want[k]);
        }
        x.bytes(0, 2);
        x.relax();
        CHECKS.due("bytes, as many as a short branch has", x.statement(5, 2), 0);
        x.go(4, -3, 200);
        x.relax();
        CHECKS.due("it goes, but is long", x.statement(4, 2), 0);
    }

    private static void statementDistance() {
        CHECKS.says("Promise 9: what 3: the distance of a short branch, else 0");
        BranchLayout x = oneOfEach();
        int[] want = {0, 0, 0, 0, -14};
        for (int k = 0; k < 5; k++) {
            CHECKS.due("statement(" + k + ", 3)", x.statement(k, 3), want[k]);
        }
        int[] more = {-114, -115, 141, 142, 14, 13};
        int[] distances = {-128, 0, 127, 0, 0, -1};
        for (int i = 0; i < more.length; i++) {
            x.go(4, -3, more[i]);
            x.relax();
            CHECKS.due("more " + more[i], x.statement(4, 3), distances[i]);
            CHECKS.due("more " + more[i] + ": short", x.statement(4, 2), i == 1 || i == 3 ? 0 : 1);
        }
    }

    private static void noSuchStatement() {
        CHECKS.says("Promise 9: NONE if there is no such statement");
        BranchLayout x = oneOfEach();
        x.label(0);
        for (int k : new int[] {-1, 5, -2, 6, -7, 4095, 4096, LEAST, LEAST + 1, MOST - 1, MOST}) {
            CHECKS.statement("none such", x, k, NONE, NONE, NONE, NONE, NONE);
            CHECKS.due("none such, nor what", x.statement(k, k), NONE);
        }
        CHECKS.due("refused", x.bytes(0, -1), NONE);
        CHECKS.statement("refused", x, 5, NONE, NONE, NONE, NONE, NONE);
        CHECKS.due("made", x.bytes(0, 1), 5);
        CHECKS.statement("made", x, 5, 0, 0, 0, 0, NONE);
        CHECKS.statement("not made", x, 6, NONE, NONE, NONE, NONE, NONE);
    }

    private static void noSuchWhat() {
        CHECKS.says("Promise 9: NONE if there is no such what");
        BranchLayout x = oneOfEach();
        x.branch(0, 5);
        for (int k = 0; k < 6; k++) {
            for (int what : new int[] {-1, 4, -2, 5, 256, LEAST, LEAST + 1, LEAST + 3, MOST - 1, MOST}) {
                CHECKS.due("statement(" + k + ", " + what + ")", x.statement(k, what), NONE);
            }
        }
    }

    private static void placeAsLaidOutLatest() {
        CHECKS.says("Promise 10: Where a label stands as it was laid out latest");
        BranchLayout x = new BranchLayout();
        x.bytes(0, 3);
        x.label(0);
        x.label(1);
        x.bytes(1, 5);
        x.branch(0, 6);
        x.label(0);
        x.label(1);
        x.label(3);
        x.relax();
        int[] first = {3, 0, 9, 5, 0};
        for (int label = 0; label < 5; label++) {
            CHECKS.place("laid out", x, label, first[label]);
        }
        x.go(2, 0, 0);
        x.bytes(3, 7);
        x.label(3);
        for (int label = 0; label < 5; label++) {
            CHECKS.place("not laid out anew", x, label, first[label]);
        }
        x.relax();
        int[] second = {3, 0, 5, 5, 0, 7};
        for (int label = 0; label < 6; label++) {
            CHECKS.place("laid out anew", x, label, second[label]);
        }
    }

    private static void placeBehindThat() {
        CHECKS.says("Promise 10: 0 for one that came behind that");
        BranchLayout x = new BranchLayout();
        x.bytes(2, 77);
        x.label(2);
        CHECKS.place("never laid out", x, 0, 0);
        x.relax();
        x.label(2);
        CHECKS.place("behind the layout", x, 1, 0);
        CHECKS.place("before it", x, 0, 77);
        x.bytes(2, 1);
        x.label(2);
        CHECKS.place("behind the layout and a statement", x, 2, 0);
        x.relax();
        CHECKS.place("laid out anew", x, 1, 77);
        CHECKS.place("laid out anew", x, 2, 78);
        x.clear();
        x.label(2);
        CHECKS.place("cleared", x, 0, 0);
    }

    private static void noSuchLabel() {
        CHECKS.says("Promise 10: NONE if there is none such");
        BranchLayout x = new BranchLayout();
        x.bytes(0, 3);
        x.bytes(0, 3);
        x.label(0);
        for (int time = 0; time < 2; time++) {
            for (int label : new int[] {-1, 1, -2, 2, -3, 1023, 1024, 4096, LEAST, LEAST + 1, MOST - 1, MOST}) {
                CHECKS.place("none such", x, label, NONE);
            }
            x.relax();
        }
        CHECKS.due("refused", x.label(4), NONE);
        CHECKS.place("refused", x, 1, NONE);
        CHECKS.due("made", x.label(0), 1);
        CHECKS.place("made", x, 1, 0);
        CHECKS.place("not made", x, 2, NONE);
    }

    private static void sizeAsLaidOutLatest() {
        CHECKS.says("Promise 11: How many bytes a section has as it was laid out latest");
        BranchLayout x = new BranchLayout();
        x.bytes(0, 3);
        x.bytes(3, 65536);
        x.bytes(3, 65536);
        x.branch(1, 6);
        x.align(0, 16);
        CHECKS.sizes("never laid out", x, 0, 0, 0, 0);
        x.relax();
        CHECKS.sizes("laid out", x, 16, 6, 0, 131072);
        x.bytes(0, 4);
        x.bytes(2, 1);
        x.go(3, -5, 0);
        x.label(3);
        CHECKS.sizes("not laid out anew", x, 16, 6, 0, 131072);
        x.relax();
        CHECKS.sizes("laid out anew", x, 20, 2, 1, 131072);
        x.relax();
        CHECKS.sizes("laid out twice", x, 20, 2, 1, 131072);
        x.clear();
        CHECKS.sizes("cleared", x, 0, 0, 0, 0);
    }

    private static void sizeOfWhatIsEmpty() {
        CHECKS.says("Promise 11: How many bytes a section has (none)");
        BranchLayout x = new BranchLayout();
        CHECKS.sizes("new", x, 0, 0, 0, 0);
        x.relax();
        CHECKS.sizes("empty", x, 0, 0, 0, 0);
        x.label(0);
        x.bytes(1, 0);
        x.align(2, 4096);
        x.relax();
        CHECKS.sizes("statements and labels of no bytes", x, 0, 0, 0, 0);
    }

    private static void noSuchSection() {
        CHECKS.says("Promise 11: NONE if there is none such");
        BranchLayout x = new BranchLayout();
        for (int time = 0; time < 2; time++) {
            for (int section : Checks.NO_SECTIONS) {
                CHECKS.due("size(" + section + ")", x.size(section), NONE);
            }
            for (int section = 0; section < 4; section++) {
                x.bytes(section, 5);
            }
            x.relax();
        }
    }

    private static void tellingChangesNothing() {
        CHECKS.says("Promises 9 to 11: as it was laid out latest (however often it is asked)");
        BranchLayout x = oneOfEach();
        x.label(0);
        for (int time = 0; time < 3; time++) {
            CHECKS.statement("asked again", x, 4, 12, 2, 1, -14, NONE);
            CHECKS.statement("none", x, 5, NONE, NONE, NONE, NONE);
            CHECKS.place("asked again", x, 0, 0);
            CHECKS.place("none", x, 1, NONE);
            CHECKS.sizes("asked again", x, 9, 14, 0, 0, NONE);
        }
        CHECKS.due("the next statement", x.bytes(0, 1), 5);
        CHECKS.due("the next label", x.label(0), 1);
    }
}

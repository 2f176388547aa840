/** Promises 1 to 6, sentence by sentence: what is made, what is refused, and what a new or cleared object tells. */
public final class MakingTest {
    private static final int NONE = Checks.NONE;
    private static final int LEAST = Checks.LEAST;
    private static final int MOST = Checks.MOST;

    private static final Checks CHECKS = new Checks();

    public static void main(String[] args) {
        newHasNoStatements();
        newHasNoLabels();
        newIsNotLaidOut();
        newSharesNothing();
        clearOfNew();
        clearForgetsStatementsAndLabels();
        clearForgetsTheLayout();
        clearForgetsGoals();
        clearCanBeRepeated();
        clearOfFull();
        bytesNumber();
        bytesSection();
        bytesTooFewOrTooMany();
        bytesFull();
        alignNumber();
        alignSection();
        alignNotSo();
        alignFull();
        branchNumber();
        branchSection();
        branchNotSo();
        branchFull();
        labelNumber();
        labelSection();
        labelFull();
        fullOfOneKindOnly();
        CHECKS.end();
    }

    private static BranchLayout full() {
        // Past its 512th call an object promises nothing, but this one keeps to the document's limits there too.
        BranchLayout x = new BranchLayout();
        for (int k = 0; k < 4095; k++) {
            CHECKS.due("bytes while there is room", x.bytes(k % 4, 1), k);
        }
        return x;
    }

    private static void newHasNoStatements() {
        CHECKS.says("Promise 1: No statements");
        BranchLayout x = new BranchLayout();
        for (int k : new int[] {0, 1, 4095, 4096, -1, LEAST, MOST}) {
            CHECKS.statement("new", x, k, NONE, NONE, NONE, NONE);
        }
        CHECKS.due("new: go(0, -2, 0)", x.go(0, -2, 0), false);
        CHECKS.due("new: the first statement", x.branch(0, 5), 0);
    }

    private static void newHasNoLabels() {
        CHECKS.says("Promise 1: no labels");
        BranchLayout x = new BranchLayout();
        for (int label : new int[] {0, 1, 1023, 1024, -1, LEAST, MOST}) {
            CHECKS.place("new", x, label, NONE);
        }
        x.branch(0, 5);
        CHECKS.due("no label: go(0, 0, 0)", x.go(0, 0, 0), false);
        CHECKS.place("a statement is no label", x, 0, NONE);
        CHECKS.due("new: the first label", x.label(0), 0);
    }

    private static void newIsNotLaidOut() {
        CHECKS.says("Promise 1: nothing is laid out");
        BranchLayout x = new BranchLayout();
        CHECKS.empty("new", x);
        for (int section = 0; section < 4; section++) {
            x.bytes(section, 3);
            x.branch(section, 5);
            x.align(section, 64);
            x.label(section);
        }
        for (int k = 0; k < 12; k++) {
            CHECKS.statement("not laid out", x, k, 0, 0, 0, 0, NONE);
        }
        for (int label = 0; label < 4; label++) {
            CHECKS.place("not laid out", x, label, 0);
        }
        CHECKS.sizes("not laid out", x, 0, 0, 0, 0, NONE);

        BranchLayout y = new BranchLayout();
        CHECKS.due("empty: relax()", y.relax(), 0);
        CHECKS.empty("empty, laid out", y);
    }

    private static void newSharesNothing() {
        CHECKS.says("Promise 1: No statements, no labels (of another object either)");
        BranchLayout x = new BranchLayout();
        BranchLayout before = new BranchLayout();
        x.bytes(0, 9);
        x.label(0);
        x.relax();
        CHECKS.empty("made before", before);
        CHECKS.empty("made behind", new BranchLayout());
        before.clear();
        CHECKS.statement("another one was cleared", x, 0, 0, 9, 0, 0);
        CHECKS.place("another one was cleared", x, 0, 9);
        CHECKS.sizes("another one was cleared", x, 9, 0, 0, 0);
    }

    private static void clearOfNew() {
        CHECKS.says("Promise 2: All is as at first");
        BranchLayout x = new BranchLayout();
        x.clear();
        CHECKS.empty("clear of a new one", x);
        CHECKS.due("clear of a new one: relax()", x.relax(), 0);
        CHECKS.due("clear of a new one: bytes", x.bytes(3, 65536), 0);
        CHECKS.due("clear of a new one: label", x.label(3), 0);
    }

    private static BranchLayout filled() {
        BranchLayout x = new BranchLayout();
        for (int section = 0; section < 4; section++) {
            x.bytes(section, 10 + section);
            x.label(section);
            x.branch(section, 5);
            x.align(section, 8);
            x.go(3 * section + 1, section, 0);
        }
        return x;
    }

    private static void clearForgetsStatementsAndLabels() {
        CHECKS.says("Promise 2: All is as at first (never laid out)");
        BranchLayout x = filled();
        x.clear();
        CHECKS.empty("clear", x);
        CHECKS.due("clear: relax()", x.relax(), 0);
        CHECKS.empty("clear, laid out", x);
        CHECKS.due("clear: the first branch", x.branch(2, 6), 0);
        CHECKS.due("clear: an old label", x.go(0, 0, 0), false);
        CHECKS.due("clear: an old statement", x.go(0, -3, 0), false);
        CHECKS.due("clear: the first label", x.label(2), 0);
        CHECKS.due("clear: the second label is gone", x.place(1), NONE);
    }

    private static void clearForgetsTheLayout() {
        CHECKS.says("Promise 2: All is as at first (laid out before)");
        BranchLayout x = filled();
        x.relax();
        CHECKS.sizes("before clear", x, 16, 16, 16, 16);
        x.clear();
        CHECKS.empty("clear", x);
        x.bytes(0, 1);
        x.branch(1, 6);
        x.align(0, 2);
        x.label(0);
        x.label(1);
        for (int k = 0; k < 3; k++) {
            CHECKS.statement("clear, not laid out anew", x, k, 0, 0, 0, 0, NONE);
        }
        CHECKS.statement("clear, not laid out anew", x, 3, NONE, NONE, NONE, NONE);
        CHECKS.place("clear, not laid out anew", x, 0, 0);
        CHECKS.place("clear, not laid out anew", x, 1, 0);
        CHECKS.place("clear, not laid out anew", x, 2, NONE);
        CHECKS.sizes("clear, not laid out anew", x, 0, 0, 0, 0);
        CHECKS.due("clear: relax()", x.relax(), 1);
        CHECKS.place("clear, laid out anew", x, 0, 2);
        CHECKS.place("clear, laid out anew", x, 1, 6);
        CHECKS.sizes("clear, laid out anew", x, 2, 6, 0, 0);
    }

    private static void clearForgetsGoals() {
        CHECKS.says("Promise 2: All is as at first (no branch goes anywhere)");
        BranchLayout x = new BranchLayout();
        x.branch(0, 5);
        x.label(0);
        x.go(0, 0, 7);
        CHECKS.due("before clear: relax()", x.relax(), 0);
        x.clear();
        x.branch(0, 5);
        x.label(0);
        CHECKS.statement("clear, not laid out", x, 0, 0, 0, 0, 0);
        CHECKS.due("clear: relax()", x.relax(), 1);
        CHECKS.statement("clear, laid out", x, 0, 0, 5, 0, 0);
        CHECKS.due("clear: go", x.go(0, 0, 0), true);
        x.relax();
        CHECKS.statement("clear, no bytes more are left", x, 0, 0, 2, 1, 0);
    }

    private static void clearCanBeRepeated() {
        CHECKS.says("Promise 2: All is as at first (time and again)");
        BranchLayout x = new BranchLayout();
        for (int time = 1; time <= 20; time++) {
            CHECKS.due("time " + time + ": bytes", x.bytes(time % 4, time), 0);
            CHECKS.due("time " + time + ": label", x.label(time % 4), 0);
            CHECKS.place("time " + time + ", not laid out", x, 0, 0);
            x.relax();
            CHECKS.place("time " + time, x, 0, time);
            CHECKS.statement("time " + time, x, 0, 0, time, 0, 0);
            x.clear();
            x.clear();
        }
        CHECKS.empty("cleared twice", x);
    }

    private static void clearOfFull() {
        CHECKS.says("Promise 2: All is as at first (after all was full)");
        BranchLayout x = full();
        x.bytes(0, 1);
        for (int label = 0; label < 1024; label++) {
            x.label(label % 4);
        }
        x.relax();
        x.clear();
        CHECKS.empty("full, cleared", x);
        CHECKS.due("full, cleared: bytes", x.bytes(0, 1), 0);
        CHECKS.due("full, cleared: align", x.align(0, 2), 1);
        CHECKS.due("full, cleared: branch", x.branch(0, 5), 2);
        CHECKS.due("full, cleared: label", x.label(0), 0);
    }

    private static void bytesNumber() {
        CHECKS.says("Promise 3: A statement of n bytes (0 .. 65536): its number");
        int[] n = {0, 1, 2, 255, 256, 32767, 32768, 65535, 65536};
        BranchLayout x = new BranchLayout();
        for (int k = 0; k < n.length; k++) {
            CHECKS.due("bytes(2, " + n[k] + ")", x.bytes(2, n[k]), k);
        }
        CHECKS.due("bytes: relax()", x.relax(), 0);
        int at = 0;
        for (int k = 0; k < n.length; k++) {
            CHECKS.statement("bytes", x, k, at, n[k], 0, 0);
            at += n[k];
        }
        CHECKS.sizes("bytes", x, 0, 0, at, 0);
    }

    private static void bytesSection() {
        CHECKS.says("Promise 3: NONE: there is no such section");
        BranchLayout x = new BranchLayout();
        for (int section : Checks.NO_SECTIONS) {
            CHECKS.due("bytes(" + section + ", 0)", x.bytes(section, 0), NONE);
            CHECKS.due("bytes(" + section + ", 65536)", x.bytes(section, 65536), NONE);
            CHECKS.due("bytes(" + section + ", -1)", x.bytes(section, -1), NONE);
        }
        CHECKS.empty("refused", x);
        for (int section = 0; section < 4; section++) {
            CHECKS.due("bytes(" + section + ", 1)", x.bytes(section, 1 + section), section);
        }
        x.relax();
        CHECKS.sizes("one in each section", x, 1, 2, 3, 4);
    }

    private static void bytesTooFewOrTooMany() {
        CHECKS.says("Promise 3: NONE: n is not so");
        BranchLayout x = new BranchLayout();
        for (int n : new int[] {-1, 65537, -2, -65536, 65538, 131072, 1 << 30, LEAST, LEAST + 1, MOST - 1, MOST}) {
            for (int section = 0; section < 4; section++) {
                CHECKS.due("bytes(" + section + ", " + n + ")", x.bytes(section, n), NONE);
            }
        }
        CHECKS.empty("refused", x);
        CHECKS.due("refused ones take no number", x.bytes(0, 0), 0);
        x.relax();
        CHECKS.statement("refused ones take no bytes", x, 0, 0, 0, 0, 0);
        CHECKS.sizes("refused ones take no bytes", x, 0, 0, 0, 0);
    }

    private static void bytesFull() {
        CHECKS.says("Promise 3: NONE: there are 4096");
        BranchLayout x = full();
        CHECKS.due("the 4096th", x.bytes(0, 65536), 4095);
        for (int section = 0; section < 4; section++) {
            CHECKS.due("the 4097th", x.bytes(section, 1), NONE);
        }
        dueFull(x, 65536);
    }

    /** The last of the 4096 statements is in section 0, behind 1024 of one byte each. */
    private static void dueFull(BranchLayout x, int lastBytes) {
        x.relax();
        CHECKS.due("the last's place", x.statement(4095, 0), 1024);
        CHECKS.due("the last's bytes", x.statement(4095, 1), lastBytes);
        CHECKS.statement("none behind it", x, 4096, NONE, NONE, NONE, NONE);
        CHECKS.sizes("full", x, 1024 + lastBytes, 1024, 1024, 1023);
    }

    private static void alignNumber() {
        CHECKS.says("Promise 4: An alignment to n (1, 2, 4, .. 4096) likewise: its number");
        BranchLayout x = new BranchLayout();
        CHECKS.due("bytes(1, 1)", x.bytes(1, 1), 0);
        int k = 1;
        for (int n = 1; n <= 4096; n *= 2) {
            CHECKS.due("align(1, " + n + ")", x.align(1, n), k++);
        }
        CHECKS.due("align: relax()", x.relax(), 0);
        CHECKS.statement("align 1", x, 1, 1, 0, 0, 0);
        CHECKS.statement("align 2", x, 2, 1, 1, 0, 0);
        CHECKS.statement("align 4", x, 3, 2, 2, 0, 0);
        CHECKS.statement("align 4096", x, 13, 2048, 2048, 0, 0);
        CHECKS.sizes("align", x, 0, 4096, 0, 0);
    }

    private static void alignSection() {
        CHECKS.says("Promise 4: likewise: NONE: there is no such section");
        BranchLayout x = new BranchLayout();
        for (int section : Checks.NO_SECTIONS) {
            CHECKS.due("align(" + section + ", 1)", x.align(section, 1), NONE);
            CHECKS.due("align(" + section + ", 4096)", x.align(section, 4096), NONE);
            CHECKS.due("align(" + section + ", 3)", x.align(section, 3), NONE);
        }
        CHECKS.empty("refused", x);
        for (int section = 0; section < 4; section++) {
            CHECKS.due("align(" + section + ", 2)", x.align(section, 2), section);
        }
    }

    private static void alignNotSo() {
        CHECKS.says("Promise 4: likewise: NONE: n is not so");
        BranchLayout x = new BranchLayout();
        for (int power = 4; power <= 4096; power *= 2) {
            CHECKS.due("align(1, " + (power - 1) + ")", x.align(1, power - 1), NONE);
            CHECKS.due("align(1, " + (power + 1) + ")", x.align(1, power + 1), NONE);
            CHECKS.due("align(1, " + 3 * power + ")", x.align(1, 3 * power), NONE);
            CHECKS.due("align(1, " + -power + ")", x.align(1, -power), NONE);
        }
        for (int n : new int[] {0, -1, -2, 3, 6, 6144, 8192, 16384, 65536, 1 << 30, LEAST, LEAST + 1, MOST - 1, MOST}) {
            CHECKS.due("align(1, " + n + ")", x.align(1, n), NONE);
        }
        CHECKS.empty("refused", x);
        CHECKS.due("refused ones take no number", x.align(1, 4096), 0);
    }

    private static void alignFull() {
        CHECKS.says("Promise 4: likewise: NONE: there are 4096");
        BranchLayout x = full();
        CHECKS.due("the 4096th", x.align(0, 4096), 4095);
        for (int section = 0; section < 4; section++) {
            CHECKS.due("the 4097th", x.align(section, 1), NONE);
            CHECKS.due("the 4097th", x.align(section, 4096), NONE);
        }
        dueFull(x, 3072);
    }

    private static void branchNumber() {
        CHECKS.says("Promise 5: A branch with n bytes when it is long (5 or 6) likewise: its number");
        BranchLayout x = new BranchLayout();
        CHECKS.due("branch(0, 5)", x.branch(0, 5), 0);
        CHECKS.due("branch(0, 6)", x.branch(0, 6), 1);
        CHECKS.due("branch(3, 6)", x.branch(3, 6), 2);
        CHECKS.due("branch(3, 5)", x.branch(3, 5), 3);
        CHECKS.due("branch: relax()", x.relax(), 4);
        CHECKS.statement("branch", x, 0, 0, 5, 0, 0);
        CHECKS.statement("branch", x, 1, 5, 6, 0, 0);
        CHECKS.statement("branch", x, 2, 0, 6, 0, 0);
        CHECKS.statement("branch", x, 3, 6, 5, 0, 0);
        CHECKS.sizes("branch", x, 11, 0, 0, 11);
    }

    private static void branchSection() {
        CHECKS.says("Promise 5: likewise: NONE: there is no such section");
        BranchLayout x = new BranchLayout();
        for (int section : Checks.NO_SECTIONS) {
            CHECKS.due("branch(" + section + ", 5)", x.branch(section, 5), NONE);
            CHECKS.due("branch(" + section + ", 6)", x.branch(section, 6), NONE);
            CHECKS.due("branch(" + section + ", 7)", x.branch(section, 7), NONE);
        }
        CHECKS.empty("refused", x);
        CHECKS.due("refused: relax()", x.relax(), 0);
        for (int section = 0; section < 4; section++) {
            CHECKS.due("branch(" + section + ", 5)", x.branch(section, 5), section);
        }
    }

    private static void branchNotSo() {
        CHECKS.says("Promise 5: likewise: NONE: n is not so");
        BranchLayout x = new BranchLayout();
        for (int n : new int[] {4, 7, 3, 8, 2, 1, 0, -1, -5, -6, 261, LEAST, LEAST + 1, LEAST + 5, MOST - 1, MOST}) {
            CHECKS.due("branch(0, " + n + ")", x.branch(0, n), NONE);
            CHECKS.due("branch(3, " + n + ")", x.branch(3, n), NONE);
        }
        CHECKS.empty("refused", x);
        CHECKS.due("refused: relax()", x.relax(), 0);
        CHECKS.due("refused ones take no number", x.branch(0, 5), 0);
    }

    private static void branchFull() {
        CHECKS.says("Promise 5: likewise: NONE: there are 4096");
        BranchLayout x = full();
        CHECKS.due("the 4096th", x.branch(0, 6), 4095);
        for (int section = 0; section < 4; section++) {
            CHECKS.due("the 4097th", x.branch(section, 5), NONE);
            CHECKS.due("the 4097th", x.branch(section, 6), NONE);
        }
        CHECKS.due("no branch behind the last", x.go(4096, -2, 0), false);
        dueFull(x, 6);
        CHECKS.due("the last goes to the last", x.go(4095, -2 - 4095, 0), true);
        dueFull(x, 2);
        CHECKS.statement("the last is short", x, 4095, 1024, 2, 1, -2);
    }

    private static void labelNumber() {
        CHECKS.says("Promise 6: A label: its number");
        BranchLayout x = new BranchLayout();
        CHECKS.due("label(0)", x.label(0), 0);
        CHECKS.due("label(3)", x.label(3), 1);
        CHECKS.due("a statement's number is another", x.bytes(0, 1), 0);
        CHECKS.due("label(0) at another place", x.label(0), 2);
        CHECKS.due("label(0) at the same place", x.label(0), 3);
        CHECKS.due("a statement's number is another", x.bytes(0, 1), 1);
        x.relax();
        CHECKS.due("label(1) behind a layout", x.label(1), 4);
    }

    private static void labelSection() {
        CHECKS.says("Promise 6: NONE: there is no such section");
        BranchLayout x = new BranchLayout();
        for (int section : Checks.NO_SECTIONS) {
            CHECKS.due("label(" + section + ")", x.label(section), NONE);
        }
        CHECKS.empty("refused", x);
        for (int section = 0; section < 4; section++) {
            CHECKS.due("label(" + section + ")", x.label(section), section);
        }
        CHECKS.place("refused ones take no number", x, 4, NONE);
    }

    private static void labelFull() {
        CHECKS.says("Promise 6: NONE: there are 1024");
        BranchLayout x = new BranchLayout();
        x.bytes(3, 7);
        for (int label = 0; label < 1024; label++) {
            CHECKS.due("while there is room", x.label(label % 4), label);
        }
        x.branch(3, 5);
        for (int section = 0; section < 4; section++) {
            CHECKS.due("the 1025th", x.label(section), NONE);
        }
        CHECKS.due("the 1024th is a place", x.go(1, 1023, 0), true);
        CHECKS.due("the 1025th is none", x.go(1, 1024, 0), false);
        CHECKS.due("relax()", x.relax(), 0);
        CHECKS.statement("it goes to the 1024th", x, 1, 7, 2, 1, -2);
        CHECKS.place("the 1024th", x, 1023, 7);
        CHECKS.place("the 1025th", x, 1024, NONE);
    }

    private static void fullOfOneKindOnly() {
        CHECKS.says("Promises 3 and 6: there are 4096 statements, 1024 labels: each is counted for itself");
        BranchLayout x = full();
        CHECKS.due("a label beside 4095 statements", x.label(0), 0);
        CHECKS.due("the 4096th beside a label", x.bytes(0, 1), 4095);
        CHECKS.due("a label beside 4096 statements", x.label(0), 1);
        x.relax();
        CHECKS.place("before the last statement", x, 0, 1024);
        CHECKS.place("at the end", x, 1, 1025);
    }
}

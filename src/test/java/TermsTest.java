/** The document's 'Terms' but for TO LAY OUT, sentence by sentence: where statements, labels and places are. */
public final class TermsTest {
    private static final int NONE = Checks.NONE;
    private static final int LEAST = Checks.LEAST;
    private static final int MOST = Checks.MOST;

    private static final Checks CHECKS = new Checks();

    public static void main(String[] args) {
        statementNumbers();
        mostStatements();
        sections();
        bytesSoMany();
        alignmentAroundMultiples();
        alignmentsInARow();
        branchLengths();
        labelNumbers();
        mostLabels();
        labelBeforeNextStatement();
        labelAtTheEnd();
        labelsOfOtherSections();
        placeIsALabel();
        placeIsAStatement();
        bytesMore();
        distance();
        CHECKS.end();
    }

    private static void statementNumbers() {
        CHECKS.says("STATEMENTS have the numbers 0, 1, ..");
        BranchLayout x = new BranchLayout();
        for (int k = 0; k < 120; k += 3) {
            CHECKS.due("bytes", x.bytes(k % 4, k), k);
            CHECKS.due("refused", x.bytes(k % 4, -1), NONE);
            CHECKS.due("align", x.align((k + 1) % 4, 4), k + 1);
            CHECKS.due("refused", x.align(4, 4), NONE);
            CHECKS.due("branch", x.branch((k + 2) % 4, 5 + k % 2), k + 2);
            CHECKS.due("refused", x.branch(0, 4), NONE);
            CHECKS.due("a label between", x.label(0), k / 3);
        }
        x.relax();
        CHECKS.due("behind a layout", x.bytes(0, 0), 120);
    }

    private static void mostStatements() {
        CHECKS.says("STATEMENTS (at most 4096)");
        BranchLayout x = new BranchLayout();
        for (int k = 0; k < 4096; k++) {
            // The largest that there can be, all in one section.
            CHECKS.due("while there is room", x.bytes(1, 65536), k);
        }
        CHECKS.due("bytes beyond", x.bytes(1, 0), NONE);
        CHECKS.due("align beyond", x.align(1, 1), NONE);
        CHECKS.due("branch beyond", x.branch(1, 5), NONE);
        x.relax();
        CHECKS.statement("the last", x, 4095, 4095 * 65536, 65536, 0, 0);
        CHECKS.sizes("all", x, 0, 4096 * 65536, 0, 0);
    }

    private static void sections() {
        CHECKS.says("and stand in SECTIONS 0 .. 3, each behind those of its section before it");
        BranchLayout x = new BranchLayout();
        for (int round = 0; round < 5; round++) {
            for (int section = 3; section >= 0; section--) {
                x.bytes(section, 10 * section + 1);
            }
        }
        x.relax();
        for (int k = 0; k < 20; k++) {
            int n = 10 * (3 - k % 4) + 1;
            CHECKS.statement("interleaved", x, k, k / 4 * n, n, 0, 0);
        }
        CHECKS.sizes("interleaved", x, 5, 55, 105, 155, NONE);

        BranchLayout y = new BranchLayout();
        y.bytes(0, 3);
        y.align(1, 16);
        y.bytes(3, 1);
        y.relax();
        CHECKS.statement("the section before does not count", y, 1, 0, 0, 0, 0);
        CHECKS.statement("an empty section before does not count", y, 2, 0, 1, 0, 0);
    }

    private static void bytesSoMany() {
        CHECKS.says("They are BYTES, so many");
        BranchLayout x = new BranchLayout();
        int[] n = {0, 0, 1, 0, 65535, 65536, 0, 1};
        int[] at = {0, 0, 0, 1, 1, 65536, 131072, 131072};
        for (int bytes : n) {
            x.bytes(0, bytes);
        }
        x.relax();
        for (int k = 0; k < n.length; k++) {
            CHECKS.statement("bytes", x, k, at[k], n[k], 0, 0);
        }
        CHECKS.sizes("bytes", x, 131073);
    }

    private static void alignmentAroundMultiples() {
        CHECKS.says("an ALIGNMENT, so many bytes that behind it a multiple of it is reached");
        for (int n = 1; n <= 4096; n *= 2) {
            for (int start : new int[] {0, 1, n - 1, n, n + 1, 2 * n - 1, 2 * n, 3 * n + 1, 65535, 65536}) {
                BranchLayout x = new BranchLayout();
                x.bytes(2, start);
                x.align(2, n);
                x.label(2);
                x.bytes(2, 1);
                x.relax();
                int behind = (start + n - 1) / n * n;
                String name = "align " + n + " at " + start;
                CHECKS.statement(name, x, 1, start, behind - start, 0, 0);
                CHECKS.statement(name, x, 2, behind, 1, 0, 0);
                CHECKS.place(name, x, 0, behind);
                CHECKS.sizes(name, x, 0, 0, behind + 1, 0);
            }
        }
    }

    private static void alignmentsInARow() {
        CHECKS.says("an ALIGNMENT, so many bytes that behind it a multiple of it is reached (none, if it is so already)");
        BranchLayout x = new BranchLayout();
        x.align(0, 4096);
        x.bytes(0, 1);
        x.align(0, 4096);
        x.align(0, 4096);
        x.align(0, 1);
        x.align(0, 2);
        x.relax();
        CHECKS.statement("at the beginning", x, 0, 0, 0, 0, 0);
        CHECKS.statement("one behind a multiple", x, 2, 1, 4095, 0, 0);
        for (int k = 3; k < 6; k++) {
            CHECKS.statement("at a multiple", x, k, 4096, 0, 0, 0);
        }
    }

    private static void branchLengths() {
        CHECKS.says("a BRANCH, of 5 or 6 bytes when it is LONG, of 2 when it is SHORT");
        for (int n = 5; n <= 6; n++) {
            BranchLayout x = new BranchLayout();
            x.branch(0, n);
            x.branch(0, n);
            x.label(0);
            x.go(1, 0, 0);
            CHECKS.due("one goes: relax()", x.relax(), 1);
            CHECKS.statement("long", x, 0, 0, n, 0, 0);
            CHECKS.statement("short", x, 1, n, 2, 1, 0);
            CHECKS.sizes("one of each", x, n + 2);
            x.go(1, 0, 128);
            CHECKS.due("too far: relax()", x.relax(), 2);
            CHECKS.statement("long by its distance", x, 1, n, n, 0, 0);
            CHECKS.sizes("both long", x, 2 * n);
        }
    }

    private static void labelNumbers() {
        CHECKS.says("LABELS have the numbers 0, 1, ..");
        BranchLayout x = new BranchLayout();
        for (int label = 0; label < 100; label++) {
            CHECKS.due("label", x.label(label % 4), label);
            CHECKS.due("refused", x.label(4), NONE);
            CHECKS.due("a statement between", x.bytes(label % 3, 1), label);
        }
        x.relax();
        CHECKS.due("behind a layout", x.label(0), 100);
    }

    private static void mostLabels() {
        CHECKS.says("LABELS (at most 1024)");
        BranchLayout x = new BranchLayout();
        for (int label = 0; label < 1024; label++) {
            CHECKS.due("while there is room", x.label(0), label);
            x.bytes(0, 1);
        }
        CHECKS.due("one beyond", x.label(0), NONE);
        CHECKS.due("one beyond, in an empty section", x.label(3), NONE);
        CHECKS.due("a statement may still come", x.bytes(0, 1), 1024);
        x.relax();
        for (int label = 0; label < 1024; label++) {
            CHECKS.place("all", x, label, label);
        }
        CHECKS.place("one beyond", x, 1024, NONE);
    }

    private static void labelBeforeNextStatement() {
        CHECKS.says("one stands where the next statement of its section will");
        BranchLayout x = new BranchLayout();
        x.label(0);
        x.bytes(0, 3);
        x.label(0);
        x.align(0, 8);
        x.label(0);
        x.branch(0, 6);
        x.label(0);
        x.label(0);
        x.bytes(0, 0);
        x.label(0);
        x.bytes(0, 4);
        x.relax();
        int[] at = {0, 3, 8, 14, 14, 14};
        int[] next = {0, 1, 2, 3, 3, 4};
        for (int label = 0; label < at.length; label++) {
            CHECKS.place("before a statement", x, label, at[label]);
            CHECKS.due("its next statement", x.statement(next[label], 0), at[label]);
        }
        x.go(2, 0, 0);
        x.relax();
        CHECKS.place("a branch before it has become short", x, 3, 10);
        CHECKS.place("a branch behind it does not matter", x, 2, 8);
    }

    private static void labelAtTheEnd() {
        CHECKS.says("or at its end");
        BranchLayout x = new BranchLayout();
        x.label(0);
        x.bytes(1, 5);
        x.label(1);
        x.align(2, 4);
        x.bytes(2, 9);
        x.align(2, 4);
        x.label(2);
        x.branch(3, 5);
        x.label(3);
        x.relax();
        int[] ends = {0, 5, 12, 5};
        for (int section = 0; section < 4; section++) {
            CHECKS.place("at the end", x, section, ends[section]);
            CHECKS.due("size", x.size(section), ends[section]);
        }
        for (int section = 0; section < 4; section++) {
            x.bytes(section, 100);
        }
        x.relax();
        for (int section = 0; section < 4; section++) {
            CHECKS.place("what comes later stands behind it", x, section, ends[section]);
            CHECKS.due("what comes later stands there", x.statement(5 + section, 0), ends[section]);
        }
    }

    private static void labelsOfOtherSections() {
        CHECKS.says("the next statement of its section");
        BranchLayout x = new BranchLayout();
        x.bytes(0, 7);
        x.label(1);
        x.label(0);
        x.bytes(1, 9);
        x.bytes(2, 11);
        x.label(1);
        x.label(0);
        x.align(0, 16);
        x.label(0);
        x.relax();
        int[] at = {0, 7, 9, 7, 16};
        for (int label = 0; label < at.length; label++) {
            CHECKS.place("statements of other sections between", x, label, at[label]);
        }
    }

    private static BranchLayout withPlaces() {
        BranchLayout x = new BranchLayout();
        x.bytes(0, 10);
        x.label(0);
        x.branch(0, 5);
        x.label(0);
        x.bytes(0, 20);
        x.label(0);
        return x;
    }

    private static void placeIsALabel() {
        CHECKS.says("A PLACE is a label (its number)");
        BranchLayout x = withPlaces();
        int[] distances = {-2, 0, 20};
        for (int label = 0; label < 3; label++) {
            CHECKS.due("go(1, " + label + ", 0)", x.go(1, label, 0), true);
            x.relax();
            CHECKS.statement("to label " + label, x, 1, 10, 2, 1, distances[label]);
        }
        for (int place : new int[] {3, 4, 1023, 1024, 4096, MOST - 1, MOST}) {
            CHECKS.due("go(1, " + place + ", 0)", x.go(1, place, 0), false);
        }
        CHECKS.due("the next label comes", x.label(0), 3);
        CHECKS.due("now it is a place", x.go(1, 3, 0), true);
    }

    private static void placeIsAStatement() {
        CHECKS.says("or the beginning of a statement k (-2 - k)");
        BranchLayout x = withPlaces();
        int[] distances = {-12, -2, 0};
        for (int k = 0; k < 3; k++) {
            CHECKS.due("go(1, " + (-2 - k) + ", 0)", x.go(1, -2 - k, 0), true);
            x.relax();
            CHECKS.statement("to statement " + k, x, 1, 10, 2, 1, distances[k]);
        }
        for (int place : new int[] {-1, -5, -6, -4097, -4098, -4099, LEAST, LEAST + 1, LEAST + 2, LEAST + 3}) {
            CHECKS.due("go(1, " + place + ", 0)", x.go(1, place, 0), false);
        }
        CHECKS.due("the next statement comes", x.align(0, 64), 3);
        CHECKS.due("now it is a place", x.go(1, -5, 0), true);
        x.relax();
        CHECKS.statement("to an alignment's beginning", x, 1, 10, 2, 1, 20);
    }

    private static void bytesMore() {
        CHECKS.says("A branch may be told to GO to a place of its own section and some bytes more");
        BranchLayout x = new BranchLayout();
        x.branch(3, 5);
        x.label(3);
        for (int more : new int[] {0, 1, -1, 2, -2, 126, 127, -127, -128}) {
            CHECKS.due("go(0, 0, " + more + ")", x.go(0, 0, more), true);
            CHECKS.due("relax()", x.relax(), 0);
            CHECKS.statement("more " + more, x, 0, 0, 2, 1, more);
        }
        int[] far = {128, -129, 255, 256, -256, 65536, -65536, 1 << 30, LEAST, LEAST + 1, MOST - 1, MOST};
        for (int more : far) {
            CHECKS.due("go(0, 0, " + more + ")", x.go(0, 0, more), true);
            CHECKS.due("relax()", x.relax(), 1);
            CHECKS.statement("more " + more, x, 0, 0, 5, 0, 0);
        }
    }

    private static void distance() {
        CHECKS.says("its DISTANCE is that place and the bytes more, less the place behind the branch");
        BranchLayout x = new BranchLayout();
        x.bytes(0, 30);
        x.branch(0, 6);
        x.bytes(0, 40);
        x.branch(0, 6);
        x.label(0);
        x.go(1, -5, 3);
        x.go(3, -3, -4);
        CHECKS.due("relax()", x.relax(), 0);
        CHECKS.statement("to a branch behind", x, 1, 30, 2, 1, 40 + 3);
        CHECKS.statement("to a branch before", x, 3, 72, 2, 1, -44 - 4);
        x.go(1, -3, 0);
        x.go(3, 0, 0);
        x.relax();
        CHECKS.statement("to itself", x, 1, 30, 2, 1, -2);
        CHECKS.statement("to what is just behind", x, 3, 72, 2, 1, 0);
        x.go(3, -2, 0);
        x.relax();
        CHECKS.statement("to the section's beginning", x, 3, 72, 2, 1, -74);
    }
}

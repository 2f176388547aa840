/** Each promise by itself: ordinary inputs, the edges that the document names, and wrong inputs. */
public final class PromiseTest {
    private static final int NONE = BranchLayout.NONE;
    private static final int LEAST = Integer.MIN_VALUE;
    private static final int MOST = Integer.MAX_VALUE;
    private static final int[] NO_SECTIONS = {-1, 4, 5, LEAST, MOST};

    private static final Checks CHECKS = new Checks();

    public static void main(String[] args) {
        promise1();
        promise2();
        promise3();
        promise4();
        promise5();
        promise6();
        promise7();
        promise7Refusals();
        promise8DistanceEdges();
        promise8Rounds();
        promise8AlignmentKeepsLong();
        promise8BeginsAnew();
        promise9();
        promise9BehindTheLayout();
        promise10();
        promise11();
        limits();
        CHECKS.end();
    }

    private static void due(String call, long got, long want) {
        CHECKS.due(call, got, want);
    }

    private static void due(String call, boolean got, boolean want) {
        CHECKS.due(call, got, want);
    }

    private static void dueStatement(String name, BranchLayout x, int k, int... want) {
        for (int what = 0; what < want.length; what++) {
            due(name + ": statement(" + k + ", " + what + ")", x.statement(k, what), want[what]);
        }
    }

    private static void dueEmpty(String name, BranchLayout x) {
        for (int section = 0; section < 4; section++) {
            due(name + ": size(" + section + ")", x.size(section), 0);
        }
        dueStatement(name, x, 0, NONE, NONE, NONE, NONE);
        due(name + ": place(0)", x.place(0), NONE);
        due(name + ": relax()", x.relax(), 0);
    }

    private static void promise1() {
        BranchLayout x = new BranchLayout();
        dueEmpty("new", x);
        due("new: go(0, 0, 0)", x.go(0, 0, 0), false);
        due("new: go(0, -2, 0)", x.go(0, -2, 0), false);
        due("new: the first statement", x.bytes(0, 1), 0);
        due("new: the first label", x.label(0), 0);

        BranchLayout other = new BranchLayout();
        dueEmpty("a second new one", other);
    }

    private static void promise2() {
        BranchLayout x = new BranchLayout();
        x.clear();
        dueEmpty("clear of a new one", x);

        for (int section = 0; section < 4; section++) {
            x.bytes(section, 10);
            x.label(section);
            x.branch(section, 5);
        }
        x.go(1, 0, 0);
        x.relax();
        x.clear();
        dueEmpty("clear", x);

        due("clear: branch", x.branch(2, 6), 0);
        due("clear: branch", x.branch(2, 6), 1);
        due("clear: label", x.label(2), 0);
        dueStatement("clear, not laid out", x, 1, 0, 0, 0, 0);
        due("clear, not laid out: place(0)", x.place(0), 0);
        due("clear: no old goal is left", x.relax(), 2);
        dueStatement("clear, laid out", x, 1, 6, 6, 0, 0);
        due("clear, laid out: place(0)", x.place(0), 12);
        due("clear, laid out: size(0)", x.size(0), 0);
        due("clear, laid out: size(2)", x.size(2), 12);
    }

    private static void promise3() {
        BranchLayout x = new BranchLayout();
        due("bytes(0, 0)", x.bytes(0, 0), 0);
        due("bytes(3, 65536)", x.bytes(3, 65536), 1);
        due("bytes(0, 7)", x.bytes(0, 7), 2);
        for (int section : NO_SECTIONS) {
            due("bytes(" + section + ", 1)", x.bytes(section, 1), NONE);
        }
        for (int n : new int[] {-1, 65537, LEAST, MOST}) {
            due("bytes(0, " + n + ")", x.bytes(0, n), NONE);
        }
        due("bytes: a refused one takes no number", x.bytes(0, 1), 3);
        x.relax();
        dueStatement("bytes", x, 0, 0, 0, 0, 0);
        dueStatement("bytes", x, 1, 0, 65536, 0, 0);
        dueStatement("bytes", x, 2, 0, 7, 0, 0);
        dueStatement("bytes", x, 3, 7, 1, 0, 0);
        due("bytes: go", x.go(0, 0, 0), false);
    }

    private static void promise4() {
        BranchLayout x = new BranchLayout();
        due("bytes(1, 1)", x.bytes(1, 1), 0);
        int k = 1;
        for (int n = 1; n <= 4096; n *= 2) {
            due("align(1, " + n + ")", x.align(1, n), k++);
        }
        for (int section : NO_SECTIONS) {
            due("align(" + section + ", 4)", x.align(section, 4), NONE);
        }
        for (int n : new int[] {0, -1, -2, -4, 3, 5, 6, 12, 4095, 4097, 8192, 1 << 30, LEAST, MOST}) {
            due("align(1, " + n + ")", x.align(1, n), NONE);
        }
        x.relax();
        dueStatement("align 1", x, 1, 1, 0, 0, 0);
        dueStatement("align 2", x, 2, 1, 1, 0, 0);
        dueStatement("align 4", x, 3, 2, 2, 0, 0);
        dueStatement("align 4096", x, 13, 2048, 2048, 0, 0);
        due("align: size(1)", x.size(1), 4096);

        due("align where it is reached already", x.align(1, 4096), 14);
        due("align at the beginning", x.align(0, 16), 15);
        x.relax();
        dueStatement("align where it is reached already", x, 14, 4096, 0, 0, 0);
        dueStatement("align at the beginning", x, 15, 0, 0, 0, 0);
    }

    private static void promise5() {
        BranchLayout x = new BranchLayout();
        due("branch(0, 5)", x.branch(0, 5), 0);
        due("branch(0, 6)", x.branch(0, 6), 1);
        due("branch(3, 6)", x.branch(3, 6), 2);
        for (int section : NO_SECTIONS) {
            due("branch(" + section + ", 5)", x.branch(section, 5), NONE);
        }
        for (int n : new int[] {4, 7, 2, 0, -5, LEAST, MOST}) {
            due("branch(0, " + n + ")", x.branch(0, n), NONE);
        }
        due("branch: none goes anywhere, all are long", x.relax(), 3);
        dueStatement("branch", x, 0, 0, 5, 0, 0);
        dueStatement("branch", x, 1, 5, 6, 0, 0);
        dueStatement("branch", x, 2, 0, 6, 0, 0);
    }

    private static void promise6() {
        BranchLayout x = new BranchLayout();
        due("label(0)", x.label(0), 0);
        due("label(3)", x.label(3), 1);
        for (int section : NO_SECTIONS) {
            due("label(" + section + ")", x.label(section), NONE);
        }
        due("label: a refused one takes no number", x.label(0), 2);
        due("label: statements have numbers of their own", x.bytes(0, 1), 0);
    }

    private static void promise7() {
        BranchLayout x = new BranchLayout();
        x.bytes(0, 10);
        x.branch(0, 5);
        x.label(0);
        x.bytes(0, 10);
        due("go to a label", x.go(1, 0, 0), true);
        due("go: it is short", x.relax(), 0);
        dueStatement("go to a label", x, 1, 10, 2, 1, 0);
        due("go to a statement before", x.go(1, -2, 3), true);
        x.relax();
        dueStatement("go to a statement before", x, 1, 10, 2, 1, -9);
        due("go to a statement behind", x.go(1, -4, 3), true);
        x.relax();
        dueStatement("go to a statement behind", x, 1, 10, 2, 1, 3);
        due("go to itself", x.go(1, -3, 0), true);
        x.relax();
        dueStatement("go to itself", x, 1, 10, 2, 1, -2);

        due("go with the most more", x.go(1, 0, MOST), true);
        due("go with the most more: it is long", x.relax(), 1);
        dueStatement("go with the most more", x, 1, 10, 5, 0, 0);
        due("go with the least more", x.go(1, -2, LEAST), true);
        due("go with the least more: it is long", x.relax(), 1);
        dueStatement("go with the least more", x, 1, 10, 5, 0, 0);
    }

    private static void promise7Refusals() {
        BranchLayout x = new BranchLayout();
        x.bytes(0, 10);
        x.branch(0, 5);
        x.align(0, 4);
        x.bytes(1, 1);
        x.label(0);
        x.label(1);
        due("go: bytes", x.go(0, 0, 0), false);
        due("go: an alignment", x.go(2, 0, 0), false);
        for (int k : new int[] {-1, -3, 4, LEAST, MOST}) {
            due("go(" + k + ", 0, 0)", x.go(k, 0, 0), false);
        }
        due("go: a refused one goes nowhere", x.relax(), 1);

        due("go", x.go(1, -2, 1), true);
        for (int place : new int[] {-1, 2, -6, -7, LEAST, MOST}) {
            due("go(1, " + place + ", 9)", x.go(1, place, 9), false);
        }
        due("go: a label of another section", x.go(1, 1, 9), false);
        due("go: a statement of another section", x.go(1, -5, 9), false);
        x.relax();
        dueStatement("go: what was told before holds", x, 1, 10, 2, 1, -11);
    }

    private static void promise8DistanceEdges() {
        int[] more = {-129, -128, 127, 128};
        boolean[] isShort = {false, true, true, false};
        for (int i = 0; i < more.length; i++) {
            BranchLayout x = new BranchLayout();
            x.bytes(2, 300);
            x.branch(2, 6);
            x.label(2);
            x.go(1, 0, more[i]);
            String name = "distance " + more[i];
            due(name, x.relax(), isShort[i] ? 0 : 1);
            dueStatement(name, x, 1, 300, isShort[i] ? 2 : 6, isShort[i] ? 1 : 0, isShort[i] ? more[i] : 0);
        }
    }

    /** Each branch is near enough till the next one becomes long, so there are as many rounds as branches. */
    private static void promise8Rounds() {
        int count = 40;
        BranchLayout x = new BranchLayout();
        for (int i = 0; i < count; i++) {
            x.branch(0, 5);
            x.bytes(0, 125);
        }
        x.label(0);
        for (int i = 0; i < count; i++) {
            // Over its own bytes and the next branch: 127 while that is short.
            due("chain: go", x.go(2 * i, i + 1 < count ? -2 - (2 * i + 3) : 0, 0), true);
        }
        due("chain: none is too far", x.relax(), 0);
        dueStatement("chain", x, 0, 0, 2, 1, 127);
        x.go(2 * count - 2, 0, 3);
        due("chain: the last is too far, so are all", x.relax(), count);
        due("chain: size", x.size(0), 130 * count);

        BranchLayout y = new BranchLayout();
        y.bytes(0, 0);
        y.branch(0, 5);
        y.bytes(0, 125);
        y.branch(0, 6);
        y.label(0);
        y.go(1, 0, 1);
        due("one round: a branch that goes nowhere is long from the first", y.relax(), 2);
        y.go(3, 0, 0);
        due("one round: now it is short, the other is too far by itself", y.relax(), 1);
        y.go(1, 0, 0);
        due("one round: both are near", y.relax(), 0);
    }

    /** What has become long stays so, even where the bytes that it takes bring its goal near. */
    private static void promise8AlignmentKeepsLong() {
        BranchLayout x = new BranchLayout();
        x.branch(0, 5);
        x.bytes(0, 3);
        x.align(0, 16);
        x.label(0);
        x.go(0, 0, 114);
        due("long, though it would not need to be: relax()", x.relax(), 1);
        dueStatement("long, though it would not need to be", x, 0, 0, 5, 0, 0);
        dueStatement("the alignment takes less", x, 2, 8, 8, 0, 0);
        due("the label stays", x.place(0), 16);

        // The first branch is too far in the first round only; both are judged by that round's places.
        BranchLayout y = new BranchLayout();
        y.branch(0, 6);
        y.branch(0, 6);
        y.align(0, 8);
        y.label(0);
        y.go(0, 0, 122);
        y.go(1, 0, 124);
        due("judged by the same places: relax()", y.relax(), 2);
        due("judged by the same places: place(0)", y.place(0), 16);
    }

    private static void promise8BeginsAnew() {
        BranchLayout x = new BranchLayout();
        x.branch(1, 5);
        x.label(1);
        x.go(0, 0, 128);
        due("anew: too far", x.relax(), 1);
        due("anew: twice the same", x.relax(), 1);
        x.go(0, 0, 127);
        due("anew: short again", x.relax(), 0);
        dueStatement("anew", x, 0, 0, 2, 1, 127);
        x.go(0, 0, 128);
        due("anew: long again", x.relax(), 1);
        dueStatement("anew", x, 0, 0, 5, 0, 0);
    }

    private static void promise9() {
        BranchLayout x = new BranchLayout();
        x.bytes(0, 4);
        x.bytes(1, 9);
        x.branch(0, 5);
        x.align(1, 4);
        x.branch(1, 6);
        x.go(4, -3, 0);
        due("statement: relax()", x.relax(), 1);
        dueStatement("statement", x, 0, 0, 4, 0, 0);
        dueStatement("statement", x, 1, 0, 9, 0, 0);
        dueStatement("statement", x, 2, 4, 5, 0, 0);
        dueStatement("statement", x, 3, 9, 3, 0, 0);
        dueStatement("statement", x, 4, 12, 2, 1, -14);
        for (int k = 0; k < 5; k++) {
            for (int what : new int[] {-1, 4, LEAST, MOST}) {
                due("statement(" + k + ", " + what + ")", x.statement(k, what), NONE);
            }
        }
        for (int k : new int[] {-1, -2, 5, 4096, LEAST, MOST}) {
            dueStatement("statement", x, k, NONE, NONE, NONE, NONE, NONE);
        }
    }

    private static void promise9BehindTheLayout() {
        BranchLayout x = new BranchLayout();
        x.bytes(0, 4);
        x.branch(0, 5);
        x.label(0);
        x.go(1, 0, 5);
        dueStatement("never laid out", x, 0, 0, 0, 0, 0, NONE);
        dueStatement("never laid out", x, 1, 0, 0, 0, 0, NONE);
        x.relax();
        x.bytes(0, 8);
        x.align(0, 64);
        x.branch(0, 6);
        x.go(4, 0, 0);
        for (int k = 2; k < 5; k++) {
            dueStatement("behind the layout", x, k, 0, 0, 0, 0, NONE);
        }
        x.go(1, 0, 128);
        dueStatement("a new goal changes nothing yet", x, 1, 4, 2, 1, 5);
        x.go(1, -2, 0);
        dueStatement("a new place changes nothing yet", x, 1, 4, 2, 1, 5);
        x.relax();
        dueStatement("laid out anew", x, 1, 4, 2, 1, -6);
        dueStatement("laid out anew", x, 2, 6, 8, 0, 0);
        dueStatement("laid out anew", x, 3, 14, 50, 0, 0);
        dueStatement("laid out anew", x, 4, 64, 2, 1, -60);
    }

    private static void promise10() {
        BranchLayout x = new BranchLayout();
        x.bytes(0, 3);
        x.label(0);
        x.label(1);
        x.bytes(1, 5);
        x.align(0, 8);
        x.label(0);
        x.label(1);
        x.label(1);
        x.bytes(2, 77);
        x.label(3);
        for (int label = 0; label < 6; label++) {
            due("never laid out: place(" + label + ")", x.place(label), 0);
        }
        x.relax();
        due("before an alignment: place(0)", x.place(0), 3);
        due("at a section's beginning: place(1)", x.place(1), 0);
        due("behind an alignment: place(2)", x.place(2), 8);
        due("at a section's end: place(3)", x.place(3), 5);
        due("two at one place: place(4)", x.place(4), 5);
        due("in an empty section: place(5)", x.place(5), 0);
        for (int label : new int[] {-1, -2, 6, 1024, LEAST, MOST}) {
            due("place(" + label + ")", x.place(label), NONE);
        }
        x.label(0);
        due("behind the layout: place(6)", x.place(6), 0);
        x.bytes(0, 1);
        due("a new statement changes nothing yet: place(2)", x.place(2), 8);
        x.relax();
        due("laid out anew: place(6)", x.place(6), 8);
    }

    private static void promise11() {
        BranchLayout x = new BranchLayout();
        x.bytes(0, 3);
        x.bytes(3, 65536);
        x.bytes(3, 65536);
        x.branch(1, 6);
        for (int section = 0; section < 4; section++) {
            due("never laid out: size(" + section + ")", x.size(section), 0);
        }
        x.relax();
        due("size(0)", x.size(0), 3);
        due("size(1)", x.size(1), 6);
        due("size(2)", x.size(2), 0);
        due("size(3)", x.size(3), 131072);
        for (int section : NO_SECTIONS) {
            due("size(" + section + ")", x.size(section), NONE);
        }
        x.bytes(0, 4);
        x.go(3, -5, 0);
        due("behind the layout: size(0)", x.size(0), 3);
        due("behind the layout: size(1)", x.size(1), 6);
        x.relax();
        due("laid out anew: size(0)", x.size(0), 7);
        due("laid out anew: size(1)", x.size(1), 2);
    }

    /** Past its 512th call an object promises nothing, but this one keeps to the limits there too. */
    private static void limits() {
        BranchLayout x = new BranchLayout();
        for (int k = 0; k < 4096; k++) {
            due("limit: bytes", x.bytes(k % 4, 65536), k);
        }
        for (int label = 0; label < 1024; label++) {
            due("limit: label", x.label(label % 4), label);
        }
        for (int i = 0; i < 2; i++) {
            due("limit: one bytes more", x.bytes(0, 1), NONE);
            due("limit: one align more", x.align(0, 1), NONE);
            due("limit: one branch more", x.branch(0, 5), NONE);
            due("limit: one label more", x.label(0), NONE);
        }
        due("limit: relax()", x.relax(), 0);
        due("limit: size(3)", x.size(3), 1024 * 65536);
        due("limit: place(1023)", x.place(1023), 1024 * 65536);
        dueStatement("limit", x, 4095, 1023 * 65536, 65536, 0, 0);
        dueStatement("limit", x, 4096, NONE, NONE, NONE, NONE);
        x.clear();
        dueEmpty("limit: clear", x);
        due("limit: bytes after clear", x.bytes(0, 1), 0);
        due("limit: label after clear", x.label(0), 0);
    }
}

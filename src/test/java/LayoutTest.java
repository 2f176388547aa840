/** Promises 7 and 8 with TO LAY OUT, sentence by sentence: where branches go, and the forms that they get. */
public final class LayoutTest {
    private static final int LEAST = Checks.LEAST;
    private static final int MOST = Checks.MOST;

    private static final Checks CHECKS = new Checks();

    public static void main(String[] args) {
        goReplaces();
        goIsToldAtOnce();
        goOfNoBranch();
        goToNoPlace();
        goToAnotherSection();
        goInEachSection();
        refusedGoLeavesTheOldOne();
        refusedGoLeavesNone();
        relaxOfNothing();
        relaxCountsLongOnes();
        relaxBeginsAnew();
        goersAreShortOthersLong();
        placesAreToldByThat();
        edgesByBytesMore();
        edgesByBytesBetween();
        edgesByFarMore();
        allAreJudgedByTheSamePlaces();
        placesAreToldAnew();
        longOnesStayLong();
        backwardRounds();
        asManyRoundsAsBranches();
        roundsOfSeveralSections();
        CHECKS.end();
    }

    private static void goReplaces() {
        CHECKS.says("Promise 7: Branch k goes to a place and so many bytes more (in the place of what was told before): true");
        BranchLayout x = new BranchLayout();
        x.bytes(0, 10);
        x.branch(0, 5);
        x.label(0);
        x.bytes(0, 10);
        x.label(0);
        CHECKS.due("go to a label", x.go(1, 0, 50), true);
        CHECKS.due("go to another", x.go(1, 1, 0), true);
        x.relax();
        CHECKS.statement("the second counts, with no bytes more", x, 1, 10, 2, 1, 10);
        CHECKS.due("go to a statement", x.go(1, -2, 3), true);
        x.relax();
        CHECKS.statement("a statement in a label's place", x, 1, 10, 2, 1, -9);
        CHECKS.due("go to the same, more", x.go(1, -2, 4), true);
        x.relax();
        CHECKS.statement("other bytes more", x, 1, 10, 2, 1, -8);
        CHECKS.due("go too far", x.go(1, -2, MOST), true);
        CHECKS.due("too far: relax()", x.relax(), 1);
        CHECKS.due("go near", x.go(1, 0, 0), true);
        CHECKS.due("near: relax()", x.relax(), 0);
        CHECKS.statement("a near one in a far one's place", x, 1, 10, 2, 1, 0);
        CHECKS.due("the same once more", x.go(1, 0, 0), true);
        CHECKS.due("the same once more: relax()", x.relax(), 0);
        CHECKS.statement("the same once more", x, 1, 10, 2, 1, 0);
    }

    private static void goIsToldAtOnce() {
        CHECKS.says("Promise 7: Branch k goes to a place (what is laid out does not change by that)");
        BranchLayout x = new BranchLayout();
        x.branch(2, 6);
        x.label(2);
        x.relax();
        x.go(0, 0, 1);
        CHECKS.statement("still long", x, 0, 0, 6, 0, 0);
        CHECKS.place("still long", x, 0, 6);
        CHECKS.sizes("still long", x, 0, 0, 6, 0);
        x.relax();
        x.go(0, 0, 128);
        CHECKS.statement("still short", x, 0, 0, 2, 1, 1);
        CHECKS.place("still short", x, 0, 2);
        CHECKS.sizes("still short", x, 0, 0, 2, 0);
        x.go(0, -2, 9);
        CHECKS.statement("still the old distance", x, 0, 0, 2, 1, 1);
    }

    private static void goOfNoBranch() {
        CHECKS.says("Promise 7: false if k is no branch");
        BranchLayout x = new BranchLayout();
        x.bytes(0, 10);
        x.align(0, 16);
        x.branch(0, 5);
        x.label(0);
        CHECKS.due("bytes", x.go(0, 0, 0), false);
        CHECKS.due("bytes to themselves", x.go(0, -2, 0), false);
        CHECKS.due("an alignment", x.go(1, 0, 0), false);
        CHECKS.due("an alignment to itself", x.go(1, -3, 0), false);
        for (int k : new int[] {-1, 3, -2, -4, 4, 1024, 4095, 4096, LEAST, LEAST + 1, MOST - 1, MOST}) {
            CHECKS.due("go(" + k + ", 0, 0)", x.go(k, 0, 0), false);
            CHECKS.due("go(" + k + ", -2, 0)", x.go(k, -2, 0), false);
            CHECKS.due("go(" + k + ", " + k + ", " + k + ")", x.go(k, k, k), false);
        }
        CHECKS.due("the branch goes nowhere: relax()", x.relax(), 1);
        CHECKS.statement("bytes", x, 0, 0, 10, 0, 0);
        CHECKS.statement("an alignment", x, 1, 10, 6, 0, 0);
        CHECKS.due("the branch", x.go(2, 0, 0), true);
        CHECKS.due("it goes: relax()", x.relax(), 0);
    }

    private static void goToNoPlace() {
        CHECKS.says("Promise 7: false if there is no such place");
        BranchLayout x = new BranchLayout();
        x.branch(0, 5);
        for (int place : new int[] {-1, 0, -3, 1, -4, 1023, 1024, -4097, -4098, LEAST, LEAST + 1, MOST - 1, MOST}) {
            for (int more : new int[] {0, 1, -1, LEAST, MOST}) {
                CHECKS.due("go(0, " + place + ", " + more + ")", x.go(0, place, more), false);
            }
        }
        CHECKS.due("it goes nowhere: relax()", x.relax(), 1);
        CHECKS.statement("it goes nowhere", x, 0, 0, 5, 0, 0);
        CHECKS.due("itself", x.go(0, -2, 0), true);
        x.label(0);
        CHECKS.due("label 0", x.go(0, 0, 0), true);
        CHECKS.due("label 1", x.go(0, 1, 0), false);
        x.bytes(0, 0);
        CHECKS.due("statement 1", x.go(0, -3, 0), true);
        CHECKS.due("statement 2", x.go(0, -4, 0), false);
        CHECKS.due("NONE", x.go(0, -1, 0), false);
    }

    private static void goToAnotherSection() {
        CHECKS.says("Promise 7: false if it is in another section");
        BranchLayout x = new BranchLayout();
        for (int section = 0; section < 4; section++) {
            x.branch(section, 5);
            x.label(section);
        }
        for (int k = 0; k < 4; k++) {
            for (int section = 0; section < 4; section++) {
                if (section != k) {
                    CHECKS.due("go(" + k + ", " + section + ", 0)", x.go(k, section, 0), false);
                    CHECKS.due("go(" + k + ", " + (-2 - section) + ", 0)", x.go(k, -2 - section, 0), false);
                }
            }
        }
        CHECKS.due("none goes: relax()", x.relax(), 4);
    }

    private static void goInEachSection() {
        CHECKS.says("Promise 7: Branch k goes to a place (of its own section): true");
        BranchLayout x = new BranchLayout();
        for (int section = 0; section < 4; section++) {
            x.branch(section, 5);
            x.label(section);
        }
        for (int section = 0; section < 4; section++) {
            CHECKS.due("a label", x.go(section, section, section), true);
            CHECKS.due("others do not go yet: relax()", x.relax(), 3 - section);
            CHECKS.statement("it is short", x, section, 0, 2, 1, section);
        }
        for (int section = 0; section < 4; section++) {
            CHECKS.due("a statement", x.go(section, -2 - section, section), true);
            x.relax();
            CHECKS.statement("it is short", x, section, 0, 2, 1, section - 2);
        }
    }

    private static void refusedGoLeavesTheOldOne() {
        CHECKS.says("Promise 7: in the place of what was told before: true (and not, if false)");
        BranchLayout x = new BranchLayout();
        x.bytes(0, 10);
        x.branch(0, 5);
        x.bytes(1, 1);
        x.label(1);
        x.go(1, -2, 1);
        CHECKS.due("no such label", x.go(1, 1, 9), false);
        CHECKS.due("no such statement", x.go(1, -5, 9), false);
        CHECKS.due("NONE", x.go(1, -1, 9), false);
        CHECKS.due("a label of another section", x.go(1, 0, 9), false);
        CHECKS.due("a statement of another section", x.go(1, -4, 9), false);
        CHECKS.due("the least", x.go(1, LEAST, LEAST), false);
        CHECKS.due("the most", x.go(1, MOST, MOST), false);
        CHECKS.due("relax()", x.relax(), 0);
        CHECKS.statement("what was told before holds", x, 1, 10, 2, 1, -11);
    }

    private static void refusedGoLeavesNone() {
        CHECKS.says("Promise 7: false (and the branch goes nowhere, if it did not before)");
        BranchLayout x = new BranchLayout();
        x.branch(0, 6);
        x.label(1);
        x.go(0, 0, 0);
        x.go(0, -3, 0);
        CHECKS.due("relax()", x.relax(), 1);
        CHECKS.statement("long", x, 0, 0, 6, 0, 0);
        x.label(0);
        x.branch(0, 6);
        CHECKS.due("places that came later were none before: relax()", x.relax(), 2);
    }

    private static void relaxOfNothing() {
        CHECKS.says("Promise 8: All is laid out: how many branches are long (none)");
        BranchLayout x = new BranchLayout();
        CHECKS.due("empty", x.relax(), 0);
        CHECKS.due("empty, again", x.relax(), 0);
        x.label(0);
        CHECKS.due("labels alone", x.relax(), 0);
        x.bytes(0, 1000);
        x.align(0, 4096);
        CHECKS.due("no branches", x.relax(), 0);
        x.clear();
        CHECKS.due("cleared", x.relax(), 0);
    }

    private static void relaxCountsLongOnes() {
        CHECKS.says("Promise 8: how many branches are long");
        BranchLayout x = new BranchLayout();
        for (int k = 0; k < 40; k++) {
            x.branch(k % 4, 5 + k % 2);
            CHECKS.due("of all sections, as none goes", x.relax(), k + 1);
        }
        for (int k = 0; k < 40; k++) {
            x.go(k, -2 - k, 0);
            CHECKS.due("the others, as these go", x.relax(), 39 - k);
        }
        for (int k = 0; k < 40; k++) {
            x.go(k, -2 - k, k % 2 == 0 ? MOST : LEAST);
            CHECKS.due("these are too far", x.relax(), k + 1);
        }
    }

    private static void relaxBeginsAnew() {
        CHECKS.says("TO LAY OUT: branches that go somewhere are short (each time anew)");
        BranchLayout x = new BranchLayout();
        x.branch(1, 5);
        x.label(1);
        x.go(0, 0, 128);
        CHECKS.due("too far", x.relax(), 1);
        CHECKS.due("again", x.relax(), 1);
        x.go(0, 0, 127);
        CHECKS.due("short again", x.relax(), 0);
        CHECKS.statement("short again", x, 0, 0, 2, 1, 127);
        CHECKS.due("again", x.relax(), 0);
        x.go(0, 0, 128);
        CHECKS.due("long again", x.relax(), 1);
        CHECKS.statement("long again", x, 0, 0, 5, 0, 0);

        // Begun from the long forms, both would keep each other long.
        BranchLayout y = new BranchLayout();
        y.branch(0, 5);
        y.bytes(0, 124);
        y.branch(0, 5);
        y.label(0);
        y.go(0, 0, 0);
        y.go(2, -2, 0);
        CHECKS.due("126 ahead, -128 back", y.relax(), 0);
        y.go(2, -2, -1);
        CHECKS.due("-129 back", y.relax(), 2);
        y.go(2, -2, 0);
        CHECKS.due("126 ahead, -128 back, anew", y.relax(), 0);
        CHECKS.statement("anew", y, 0, 0, 2, 1, 126);
        CHECKS.statement("anew", y, 2, 126, 2, 1, -128);
    }

    private static void goersAreShortOthersLong() {
        CHECKS.says("TO LAY OUT: branches that go somewhere are short, the others long");
        BranchLayout x = new BranchLayout();
        for (int k = 0; k < 8; k++) {
            x.branch(0, 5 + k % 2);
            if (k % 3 == 0) {
                x.go(k, -2 - k, 0);
            }
        }
        CHECKS.due("relax()", x.relax(), 5);
        int at = 0;
        for (int k = 0; k < 8; k++) {
            boolean goes = k % 3 == 0;
            int length = goes ? 2 : 5 + k % 2;
            CHECKS.statement(goes ? "goes" : "does not go", x, k, at, length, goes ? 1 : 0, goes ? -2 : 0);
            at += length;
        }
        CHECKS.sizes("all", x, at);
    }

    private static void placesAreToldByThat() {
        CHECKS.says("TO LAY OUT: places are told by that");
        // 127 ahead while the branch between is short; 130 if it were counted as long.
        BranchLayout x = new BranchLayout();
        x.branch(0, 6);
        x.bytes(0, 125);
        x.branch(0, 5);
        x.label(0);
        x.go(0, 0, 0);
        CHECKS.due("the one between goes nowhere", x.relax(), 2);
        CHECKS.place("both long", x, 0, 136);
        x.go(2, 0, 0);
        CHECKS.due("the one between is short", x.relax(), 0);
        CHECKS.statement("over a short one", x, 0, 0, 2, 1, 127);
        CHECKS.place("both short", x, 0, 129);
    }

    private static void edgesByBytesMore() {
        CHECKS.says("TO LAY OUT: all short ones whose distance is not -128 .. 127 become long (by the bytes more)");
        for (int n = 5; n <= 6; n++) {
            for (int distance : new int[] {-130, -129, -128, -127, -1, 0, 1, 126, 127, 128, 129}) {
                boolean near = distance >= -128 && distance <= 127;
                int[] want = near ? new int[] {300, 2, 1, distance} : new int[] {300, n, 0, 0};
                BranchLayout x = new BranchLayout();
                x.bytes(2, 300);
                x.branch(2, n);
                x.label(2);
                x.go(1, 0, distance);
                CHECKS.due("label, distance " + distance, x.relax(), near ? 0 : 1);
                CHECKS.statement("label, distance " + distance, x, 1, want);
                x.go(1, -2, 302 + distance);
                CHECKS.due("statement, distance " + distance, x.relax(), near ? 0 : 1);
                CHECKS.statement("statement, distance " + distance, x, 1, want);
            }
        }
    }

    private static void edgesByBytesBetween() {
        CHECKS.says("TO LAY OUT: all short ones whose distance is not -128 .. 127 become long (by the bytes between)");
        for (int bytes = 124; bytes <= 130; bytes++) {
            BranchLayout ahead = new BranchLayout();
            ahead.branch(0, 5);
            ahead.bytes(0, bytes);
            ahead.label(0);
            ahead.go(0, 0, 0);
            CHECKS.due(bytes + " ahead", ahead.relax(), bytes <= 127 ? 0 : 1);
            CHECKS.due(bytes + " ahead: distance", ahead.statement(0, 3), bytes <= 127 ? bytes : 0);

            BranchLayout back = new BranchLayout();
            back.bytes(0, bytes);
            back.branch(0, 5);
            back.go(1, -2, 0);
            CHECKS.due(bytes + " back", back.relax(), bytes <= 126 ? 0 : 1);
            CHECKS.due(bytes + " back: distance", back.statement(1, 3), bytes <= 126 ? -bytes - 2 : 0);
        }
    }

    private static void edgesByFarMore() {
        CHECKS.says("TO LAY OUT: all short ones whose distance is not -128 .. 127 become long (however far)");
        BranchLayout x = new BranchLayout();
        for (int k = 0; k < 50; k++) {
            x.bytes(0, 65536);
        }
        int size = 50 * 65536;
        x.branch(0, 6);
        x.label(0);
        // Distances that would be near, were they counted by their lowest bits alone.
        for (int more : new int[] {256, -256, 65536, -65536, 1 << 24, MOST, LEAST, MOST - size, LEAST + size}) {
            CHECKS.due("go(50, 0, " + more + ")", x.go(50, 0, more), true);
            CHECKS.due("more " + more, x.relax(), 1);
            CHECKS.statement("more " + more, x, 50, size, 6, 0, 0);
        }
        for (int more : new int[] {MOST, LEAST}) {
            CHECKS.due("go(50, -2, " + more + ")", x.go(50, -2, more), true);
            CHECKS.due("from the beginning, more " + more, x.relax(), 1);
        }
        CHECKS.due("as many more as it takes", x.go(50, -2, size + 2 - 128), true);
        CHECKS.due("as many more as it takes: relax()", x.relax(), 0);
        CHECKS.statement("as many more as it takes", x, 50, size, 2, 1, -128);
    }

    private static void allAreJudgedByTheSamePlaces() {
        CHECKS.says("TO LAY OUT: then all short ones ... become long, and places are told anew");
        // When the first has become long, the alignment would bring the second's goal near: 124 instead of 128.
        BranchLayout x = new BranchLayout();
        x.branch(0, 6);
        x.branch(0, 6);
        x.align(0, 8);
        x.label(0);
        x.go(0, 0, 122);
        x.go(1, 0, 124);
        CHECKS.due("relax()", x.relax(), 2);
        CHECKS.place("two long ones", x, 0, 16);

        // The other way round: the second becomes long first, and only that takes the first out of reach.
        BranchLayout y = new BranchLayout();
        y.branch(0, 5);
        y.bytes(0, 122);
        y.branch(0, 5);
        y.label(0);
        y.go(0, 0, 0);
        y.go(2, 0, 200);
        CHECKS.due("127 ahead over a long one", y.relax(), 1);
        CHECKS.statement("127 ahead over a long one", y, 0, 0, 2, 1, 127);
    }

    private static void placesAreToldAnew() {
        CHECKS.says("TO LAY OUT: and places are told anew");
        BranchLayout x = new BranchLayout();
        x.branch(1, 5);
        x.label(1);
        x.bytes(1, 20);
        x.branch(1, 6);
        x.align(1, 16);
        x.label(1);
        x.go(0, 1, 1000);
        x.go(2, 0, 0);
        CHECKS.due("relax()", x.relax(), 1);
        CHECKS.statement("the long one", x, 0, 0, 5, 0, 0);
        CHECKS.statement("bytes behind it", x, 1, 5, 20, 0, 0);
        CHECKS.statement("a short one behind it", x, 2, 25, 2, 1, -22);
        CHECKS.statement("an alignment behind it", x, 3, 27, 5, 0, 0);
        CHECKS.place("a label behind it", x, 0, 5);
        CHECKS.place("a label at the end", x, 1, 32);
        CHECKS.sizes("all", x, 0, 32, 0, 0);
    }

    private static void longOnesStayLong() {
        CHECKS.says("TO LAY OUT: all short ones ... become long (and none becomes short again)");
        BranchLayout x = new BranchLayout();
        x.branch(0, 5);
        x.bytes(0, 3);
        x.align(0, 16);
        x.label(0);
        x.go(0, 0, 114);
        CHECKS.due("128 ahead, 125 when it is long: relax()", x.relax(), 1);
        CHECKS.statement("long", x, 0, 0, 5, 0, 0);
        CHECKS.statement("the alignment takes less", x, 2, 8, 8, 0, 0);
        CHECKS.place("the label stays", x, 0, 16);
    }

    private static void backwardRounds() {
        CHECKS.says("TO LAY OUT: and so on, till there are none (backward)");
        int count = 40;
        BranchLayout x = new BranchLayout();
        x.branch(0, 6);
        for (int i = 0; i < count; i++) {
            // Back over the branch before and 124 bytes and itself: -128 while that branch is short.
            int k = x.bytes(0, 124) + 1;
            x.branch(0, 6);
            x.go(k, -2 - (k - 2), 0);
        }
        x.go(0, -2, 0);
        CHECKS.due("all near", x.relax(), 0);
        CHECKS.statement("all near", x, 2, 126, 2, 1, -128);
        x.go(0, -2, 130);
        CHECKS.due("the first is too far, so are all", x.relax(), count + 1);
        CHECKS.sizes("all long", x, 130 * count + 6);
    }

    private static void asManyRoundsAsBranches() {
        CHECKS.says("TO LAY OUT: and so on, till there are none (each round but one branch)");
        int count = 240;
        BranchLayout x = new BranchLayout();
        for (int k = 0; k <= count; k++) {
            x.branch(0, 5);
        }
        x.label(0);
        for (int k = 0; k < count; k++) {
            // Over the next branch: 127 while that is short, 130 when it is long.
            x.go(k, k + 2 <= count ? -2 - (k + 2) : 0, 125);
        }
        x.go(count, 0, 0);
        CHECKS.due("all near", x.relax(), 0);
        CHECKS.due("all near: distance", x.statement(0, 3), 127);
        x.go(count, 0, 128);
        CHECKS.due("the last is too far, so are all", x.relax(), count + 1);
        CHECKS.statement("the first", x, 0, 0, 5, 0, 0);
        CHECKS.sizes("all long", x, 5 * (count + 1));
        x.go(count / 2, 0, LEAST);
        x.go(count, 0, 0);
        CHECKS.due("the middle one is too far: it and those before", x.relax(), count / 2 + 1);
        CHECKS.statement("the first behind it", x, count / 2 + 1, 5 * (count / 2 + 1), 2, 1, 127);
    }

    private static void roundsOfSeveralSections() {
        CHECKS.says("TO LAY OUT: and so on, till there are none (in all sections)");
        int inEach = 6;
        BranchLayout x = new BranchLayout();
        for (int k = 0; k < 4 * inEach; k++) {
            x.branch(k % 4, 6);
        }
        for (int section = 0; section < 4; section++) {
            x.label(section);
        }
        for (int k = 0; k < 4 * inEach; k++) {
            // The last of a section is too far, and as many before it as the section's number follow it.
            int section = k % 4;
            int beforeLast = inEach - 1 - k / 4;
            int more = beforeLast == 0 ? 128 : beforeLast <= section ? 125 : 0;
            x.go(k, beforeLast >= 2 ? -2 - (k + 8) : section, more);
        }
        CHECKS.due("relax()", x.relax(), 1 + 2 + 3 + 4);
        for (int k = 0; k < 4 * inEach; k++) {
            CHECKS.due("statement(" + k + ", 2)", x.statement(k, 2), inEach - 1 - k / 4 <= k % 4 ? 0 : 1);
        }
        CHECKS.sizes("all", x, 5 * 2 + 6, 4 * 2 + 2 * 6, 3 * 2 + 3 * 6, 2 * 2 + 4 * 6);
    }
}

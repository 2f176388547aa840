import java.util.Arrays;

/**
 * Statements of four sections, some of them branches with a short and a long form:
 * each branch gets the form that it must have, and all places are told.
 */
public final class BranchLayout {
    public static final int NONE = -1;

    private static final int SECTIONS = 4;
    private static final int MOST_STATEMENTS = 4096;
    private static final int MOST_LABELS = 1024;
    private static final int MOST_BYTES = 65536;
    private static final int MOST_ALIGNMENT = 4096;
    private static final int SHORT_LENGTH = 2;
    private static final int LEAST_DISTANCE = -128;
    private static final int MOST_DISTANCE = 127;

    private final Statement[] statements = new Statement[MOST_STATEMENTS];
    private final Label[] labels = new Label[MOST_LABELS];
    private final int[] sizes = new int[SECTIONS];
    private int statementCount;
    private int labelCount;

    public BranchLayout() {
    }

    public void clear() {
        statementCount = 0;
        labelCount = 0;
        Arrays.fill(sizes, 0);
    }

    public int bytes(int section, int n) {
        if (!isSection(section) || n < 0 || n > MOST_BYTES) {
            return NONE;
        }
        return addStatement(new Bytes(section, n));
    }

    public int align(int section, int n) {
        if (!isSection(section) || !isAlignment(n)) {
            return NONE;
        }
        return addStatement(new Alignment(section, n));
    }

    public int branch(int section, int n) {
        if (!isSection(section) || (n != 5 && n != 6)) {
            return NONE;
        }
        return addStatement(new Branch(section, n));
    }

    public int label(int section) {
        if (!isSection(section) || labelCount >= labels.length) {
            return NONE;
        }
        labels[labelCount] = new Label(section, statementCount);
        return labelCount++;
    }

    public boolean go(int k, int place, int more) {
        if (!(statementNumbered(k) instanceof Branch branch)) {
            return false;
        }
        Place goal = placeNamed(place);
        if (goal == null || goal.section != branch.section) {
            return false;
        }
        branch.goal = goal;
        branch.more = more;
        return true;
    }

    public int relax() {
        shortenAllThatGo();
        // Every round but the last makes a branch long for good, so one round more
        // than there are statements is always enough.
        for (int round = 0; round <= statementCount; round++) {
            tellPlaces();
            if (!lengthenAllTooFar()) {
                break;
            }
        }
        return countLong();
    }

    public int statement(int k, int what) {
        Statement statement = statementNumbered(k);
        return statement == null ? NONE : statement.fact(what);
    }

    public int place(int label) {
        Label found = labelNumbered(label);
        return found == null ? NONE : found.at;
    }

    public int size(int section) {
        return isSection(section) ? sizes[section] : NONE;
    }

    private static boolean isSection(int section) {
        return section >= 0 && section < SECTIONS;
    }

    private static boolean isAlignment(int n) {
        return n >= 1 && n <= MOST_ALIGNMENT && Integer.bitCount(n) == 1;
    }

    private int addStatement(Statement statement) {
        if (statementCount >= statements.length) {
            return NONE;
        }
        statements[statementCount] = statement;
        return statementCount++;
    }

    /** Null if there is no such statement. */
    private Statement statementNumbered(int k) {
        return k >= 0 && k < statementCount ? statements[k] : null;
    }

    /** Null if there is no such label. */
    private Label labelNumbered(int label) {
        return label >= 0 && label < labelCount ? labels[label] : null;
    }

    /** Null if there is no such place. */
    private Place placeNamed(int place) {
        // NONE gives statement -1 here, which there never is.
        return place >= 0 ? labelNumbered(place) : statementNumbered(-2 - place);
    }

    private void shortenAllThatGo() {
        for (int k = 0; k < statementCount; k++) {
            if (statements[k] instanceof Branch branch) {
                branch.isShort = branch.goal != null;
            }
        }
    }

    private void tellPlaces() {
        Arrays.fill(sizes, 0);
        int label = 0;
        for (int k = 0; k < statementCount; k++) {
            label = tellLabelsBefore(k, label);
            tellStatement(statements[k]);
        }
        tellLabelsBefore(statementCount, label);
    }

    private void tellStatement(Statement statement) {
        statement.at = sizes[statement.section];
        statement.length = statement.lengthFrom(statement.at);
        sizes[statement.section] += statement.length;
    }

    /** Tells the labels from the given one on that came before statement k; answers the first that did not. */
    private int tellLabelsBefore(int k, int from) {
        int label = from;
        while (label < labelCount && labels[label].next <= k) {
            labels[label].at = sizes[labels[label].section];
            label++;
        }
        return label;
    }

    /** Goes by places told beforehand, so that all branches of one round are judged alike. */
    private boolean lengthenAllTooFar() {
        boolean any = false;
        for (int k = 0; k < statementCount; k++) {
            if (statements[k] instanceof Branch branch && branch.lengthenIfTooFar()) {
                any = true;
            }
        }
        return any;
    }

    private int countLong() {
        int count = 0;
        for (int k = 0; k < statementCount; k++) {
            if (statements[k] instanceof Branch branch && !branch.isShort) {
                count++;
            }
        }
        return count;
    }

    /** What a branch can go to; it stands at 0 till it is laid out for the first time. */
    private abstract static class Place {
        final int section;
        int at;

        Place(int section) {
            this.section = section;
        }
    }

    private static final class Label extends Place {
        /** The number of the first statement that was made after this label. */
        final int next;

        Label(int section, int next) {
            super(section);
            this.next = next;
        }
    }

    private abstract static class Statement extends Place {
        int length;

        Statement(int section) {
            super(section);
        }

        abstract int lengthFrom(int start);

        int fact(int what) {
            switch (what) {
                case 0:
                    return at;
                case 1:
                    return length;
                case 2:
                case 3:
                    return 0;
                default:
                    return NONE;
            }
        }
    }

    private static final class Bytes extends Statement {
        private final int n;

        Bytes(int section, int n) {
            super(section);
            this.n = n;
        }

        @Override
        int lengthFrom(int start) {
            return n;
        }
    }

    private static final class Alignment extends Statement {
        private final int n;

        Alignment(int section, int n) {
            super(section);
            this.n = n;
        }

        @Override
        int lengthFrom(int start) {
            // n is a power of two, so the mask is the remainder, and nothing is divided.
            return -start & (n - 1);
        }
    }

    private static final class Branch extends Statement {
        private final int longLength;
        /** Null as long as the branch was not told to go anywhere. */
        private Place goal;
        private int more;
        /** Form and distance are those of the latest layout, whatever the goal has become since. */
        private boolean isShort;
        private int distance;

        Branch(int section, int longLength) {
            super(section);
            this.longLength = longLength;
        }

        @Override
        int lengthFrom(int start) {
            return isShort ? SHORT_LENGTH : longLength;
        }

        @Override
        int fact(int what) {
            switch (what) {
                case 2:
                    return isShort ? 1 : 0;
                case 3:
                    return distance;
                default:
                    return super.fact(what);
            }
        }

        boolean lengthenIfTooFar() {
            if (!isShort || goal == null) {
                return false;
            }
            // The bytes more may be any int, so their sum with a place may not fit one.
            long exact = (long) goal.at + more - (at + length);
            isShort = exact >= LEAST_DISTANCE && exact <= MOST_DISTANCE;
            distance = isShort ? (int) exact : 0;
            return !isShort;
        }
    }
}

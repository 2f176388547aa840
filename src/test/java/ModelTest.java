import java.util.ArrayList;
import java.util.List;

/**
 * Many runs of calls, the same every time, against a model that takes the document word by word
 * and counts every place from its section's beginning.
 */
public final class ModelTest {
    private static final int RUNS = 600;
    private static final int CALLS = 512;

    private static final Checks CHECKS = new Checks();
    private static long seed = 20261115L;

    public static void main(String[] args) {
        for (int run = 0; run < RUNS && CHECKS.allRight(); run++) {
            compareOneRun(run);
        }
        CHECKS.end();
    }

    private static int below(int bound) {
        seed = seed * 6364136223846793005L + 1442695040888963407L;
        return (int) ((seed >>> 33) % bound);
    }

    private static void compareOneRun(int run) {
        BranchLayout x = new BranchLayout();
        Model model = new Model();
        // Fewer sections make longer ones, with more branches in reach of one another.
        int sections = 1 + below(4);
        int mostBytes = 1 + below(130);
        for (int call = 0; call < CALLS; call++) {
            compareOneCall(run + "." + call, x, model, sections, mostBytes);
        }
        compareAll(run + ".end", x, model);
    }

    private static void compareOneCall(String name, BranchLayout x, Model model, int sections, int mostBytes) {
        int section = below(30) == 0 ? below(7) - 1 : below(sections);
        int kind = below(1000);
        if (kind < 200) {
            int n = below(40) == 0 ? below(70000) - 2000 : below(mostBytes);
            CHECKS.due(name + " bytes", x.bytes(section, n), model.add(section, 'b', n));
        } else if (kind < 260) {
            int n = below(8) == 0 ? below(9000) - 10 : 1 << below(8);
            CHECKS.due(name + " align", x.align(section, n), model.add(section, 'a', n));
        } else if (kind < 460) {
            int n = below(20) == 0 ? below(9) : 5 + below(2);
            CHECKS.due(name + " branch", x.branch(section, n), model.add(section, 'j', n));
        } else if (kind < 560) {
            CHECKS.due(name + " label", x.label(section), model.addLabel(section));
        } else if (kind < 960) {
            int k = model.someBranch();
            int place = model.somePlace(k);
            int more = below(6) == 0 ? below(300) - 150 : 0;
            CHECKS.due(name + " go", x.go(k, place, more), model.go(k, place, more));
        } else if (kind < 970) {
            CHECKS.due(name + " relax", x.relax(), model.relax());
            compareAll(name, x, model);
        } else if (kind < 999) {
            compareAll(name, x, model);
        } else {
            x.clear();
            model.clear();
        }
    }

    private static void compareAll(String name, BranchLayout x, Model model) {
        for (int k = -1; k <= model.statements.size(); k++) {
            for (int what = -1; what <= 4; what++) {
                CHECKS.due(name + " statement(" + k + ", " + what + ")", x.statement(k, what), model.statement(k, what));
            }
        }
        for (int label = -1; label <= model.labels.size(); label++) {
            CHECKS.due(name + " place(" + label + ")", x.place(label), model.place(label));
        }
        for (int section = -1; section <= 4; section++) {
            CHECKS.due(name + " size(" + section + ")", x.size(section), model.size(section));
        }
    }

    private static final class Item {
        int section;
        char kind;
        int n;
        boolean goes;
        int goal;
        int more;
        boolean isShort;
        /** For a label: how many statements there were when it came. */
        int before;
        int[] told = new int[4];
    }

    private static final class Model {
        final List<Item> statements = new ArrayList<>();
        final List<Item> labels = new ArrayList<>();
        int[] sizes = new int[4];

        void clear() {
            statements.clear();
            labels.clear();
            sizes = new int[4];
        }

        int add(int section, char kind, int n) {
            boolean right = switch (kind) {
                case 'b' -> n >= 0 && n <= 65536;
                case 'a' -> List.of(1, 2, 4, 8, 16, 32, 64, 128, 256, 512).contains(n)
                        || List.of(1024, 2048, 4096).contains(n);
                default -> n == 5 || n == 6;
            };
            if (section < 0 || section > 3 || !right) {
                return -1;
            }
            Item item = new Item();
            item.section = section;
            item.kind = kind;
            item.n = n;
            statements.add(item);
            return statements.size() - 1;
        }

        int addLabel(int section) {
            if (section < 0 || section > 3) {
                return -1;
            }
            Item item = new Item();
            item.section = section;
            item.before = statements.size();
            labels.add(item);
            return labels.size() - 1;
        }

        /** Mostly a branch, sometimes another statement or none. */
        int someBranch() {
            int k = below(statements.size() + 2) - 1;
            for (int tries = 0; tries < 8 && (k < 0 || k >= statements.size() || statements.get(k).kind != 'j'); tries++) {
                k = below(statements.size() + 2) - 1;
            }
            return k;
        }

        /** Mostly a place that is near statement k. */
        int somePlace(int k) {
            if (below(3) == 0 && !labels.isEmpty()) {
                return below(labels.size() + 1);
            }
            return -2 - Math.max(-1, k + below(25) - 12);
        }

        boolean go(int k, int place, int more) {
            if (k < 0 || k >= statements.size() || statements.get(k).kind != 'j') {
                return false;
            }
            List<Item> row = place < 0 ? statements : labels;
            int number = place < 0 ? -2 - place : place;
            Item branch = statements.get(k);
            if (number < 0 || number >= row.size() || row.get(number).section != branch.section) {
                return false;
            }
            branch.goes = true;
            branch.goal = place;
            branch.more = more;
            return true;
        }

        int bytesOf(Item item, int start) {
            switch (item.kind) {
                case 'b':
                    return item.n;
                case 'a':
                    int padding = 0;
                    while ((start + padding) % item.n != 0) {
                        padding++;
                    }
                    return padding;
                default:
                    return item.isShort ? 2 : item.n;
            }
        }

        /** The bytes of a section's statements with numbers below the given one. */
        int reached(int section, int end) {
            int at = 0;
            for (Item item : statements.subList(0, end)) {
                if (item.section == section) {
                    at += bytesOf(item, at);
                }
            }
            return at;
        }

        int placeNow(int place) {
            if (place < 0) {
                return reached(statements.get(-2 - place).section, -2 - place);
            }
            return reached(labels.get(place).section, labels.get(place).before);
        }

        int distance(int k) {
            Item branch = statements.get(k);
            return placeNow(branch.goal) + branch.more - (placeNow(-2 - k) + 2);
        }

        int relax() {
            for (Item item : statements) {
                item.isShort = item.goes;
            }
            List<Item> far;
            do {
                far = new ArrayList<>();
                for (int k = 0; k < statements.size(); k++) {
                    if (statements.get(k).isShort && (distance(k) < -128 || distance(k) > 127)) {
                        far.add(statements.get(k));
                    }
                }
                for (Item item : far) {
                    item.isShort = false;
                }
            } while (!far.isEmpty());
            return tellAll();
        }

        int tellAll() {
            int longOnes = 0;
            for (int k = 0; k < statements.size(); k++) {
                Item item = statements.get(k);
                int at = placeNow(-2 - k);
                item.told = new int[] {at, bytesOf(item, at), item.isShort ? 1 : 0, item.isShort ? distance(k) : 0};
                longOnes += item.kind == 'j' && !item.isShort ? 1 : 0;
            }
            for (int label = 0; label < labels.size(); label++) {
                labels.get(label).told[0] = placeNow(label);
            }
            for (int section = 0; section < 4; section++) {
                sizes[section] = reached(section, statements.size());
            }
            return longOnes;
        }

        int statement(int k, int what) {
            boolean known = k >= 0 && k < statements.size() && what >= 0 && what <= 3;
            return known ? statements.get(k).told[what] : -1;
        }

        int place(int label) {
            return label >= 0 && label < labels.size() ? labels.get(label).told[0] : -1;
        }

        int size(int section) {
            return section >= 0 && section < 4 ? sizes[section] : -1;
        }
    }
}

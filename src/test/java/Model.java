import java.util.ArrayList;
import java.util.List;
import java.util.NoSuchElementException;
import java.util.TreeSet;

/** The document once more, as plainly as sets and lists tell it, to compare answers with. */
final class Model {
    private static final int NOTHING = -1000;

    /** A commit: its parents, and a set of sides for each of 12 items. */
    private static final class Commit {
        final List<Integer> parents = new ArrayList<>();
        final List<TreeSet<Integer>> held = new ArrayList<>();
    }

    private record Quote(int item, int other, int shift) {
    }

    private final StringBuilder kinds = new StringBuilder();
    private final List<Commit> commits = new ArrayList<>();
    private final List<Integer> heads = new ArrayList<>();
    private final Integer[] tags = new Integer[10];
    private final List<Quote> quotes = new ArrayList<>();

    Model() {
        Commit first = new Commit();
        for (int item = 0; item < 12; item++) {
            first.held.add(new TreeSet<>(List.of(NOTHING)));
        }
        commits.add(first);
        heads.add(0);
    }

    int addItem(char kind) {
        argument("tcs".indexOf(kind) >= 0);
        state(kinds.length() < 12);
        kinds.append(kind);
        return kinds.length() - 1;
    }

    char kindOf(int item) {
        index(item, kinds.length());
        return kinds.charAt(item);
    }

    int addBranch(int commit) {
        index(commit, commits.size());
        state(heads.size() < 5);
        heads.add(commit);
        return heads.size() - 1;
    }

    int head(int branch) {
        index(branch, heads.size());
        return heads.get(branch);
    }

    int set(int branch, int item, int value) {
        index(branch, heads.size());
        index(item, kinds.length());
        argument(value >= -999 && value <= 999);
        return change(branch, item, value);
    }

    int clear(int branch, int item) {
        index(branch, heads.size());
        index(item, kinds.length());
        operation(!held(heads.get(branch), item).equals(new TreeSet<>(List.of(NOTHING))));
        return change(branch, item, NOTHING);
    }

    int settle(int branch, int item, int index) {
        index(branch, heads.size());
        index(item, kinds.length());
        List<Integer> sides = new ArrayList<>(held(heads.get(branch), item));
        operation(sides.size() > 1);
        element(index >= 0 && index < sides.size());
        return change(branch, item, sides.get(index));
    }

    int tag(int tag, int commit) {
        index(commit, commits.size());
        argument(tag >= 0 && tag < 10);
        int before = tags[tag] == null ? -1 : tags[tag];
        tags[tag] = commit;
        return before;
    }

    int tagged(int tag) {
        argument(tag >= 0 && tag < 10);
        element(tags[tag] != null);
        return tags[tag];
    }

    int commits() {
        return commits.size();
    }

    int parents(int commit) {
        index(commit, commits.size());
        return commits.get(commit).parents.size();
    }

    int parentAt(int commit, int index) {
        index(commit, commits.size());
        element(index >= 0 && index < parents(commit));
        return commits.get(commit).parents.get(index);
    }

    boolean isAncestor(int commit, int other) {
        index(commit, commits.size());
        index(other, commits.size());
        return ancestors(other).contains(commit);
    }

    int base(int commit, int other) {
        index(commit, commits.size());
        index(other, commits.size());
        TreeSet<Integer> both = ancestors(commit);
        both.retainAll(ancestors(other));
        return both.last();
    }

    int sides(int commit, int item) {
        index(commit, commits.size());
        index(item, kinds.length());
        return held(commit, item).size();
    }

    int sideAt(int commit, int item, int index) {
        index(commit, commits.size());
        index(item, kinds.length());
        element(index >= 0 && index < sides(commit, item));
        return new ArrayList<>(held(commit, item)).get(index);
    }

    int conflicts(int commit) {
        index(commit, commits.size());
        return conflictsOf(commits.get(commit).held);
    }

    int firstConflict(int commit) {
        element(conflicts(commit) > 0);
        int item = 0;
        while (held(commit, item).size() == 1) {
            item++;
        }
        return item;
    }

    int differences(int commit, int other) {
        index(commit, commits.size());
        index(other, commits.size());
        int count = 0;
        for (int item = 0; item < kinds.length(); item++) {
            count += held(commit, item).equals(held(other, item)) ? 0 : 1;
        }
        return count;
    }

    int blame(int commit, int item) {
        index(commit, commits.size());
        index(item, kinds.length());
        for (int parent : commits.get(commit).parents) {
            if (held(parent, item).equals(held(commit, item))) {
                return blame(parent, item);
            }
        }
        return commit;
    }

    int blamed(int commit, int other) {
        index(commit, commits.size());
        index(other, commits.size());
        int count = 0;
        for (int item = 0; item < kinds.length(); item++) {
            count += blame(commit, item) == other ? 1 : 0;
        }
        return count;
    }

    int merge(int branch, int other) {
        index(branch, heads.size());
        index(other, heads.size());
        operation(!isAncestor(heads.get(other), heads.get(branch)));
        return add(branch, merged(heads.get(branch), heads.get(other)), heads.get(other));
    }

    int wouldConflict(int branch, int other) {
        index(branch, heads.size());
        index(other, heads.size());
        return conflictsOf(merged(heads.get(branch), heads.get(other)));
    }

    boolean isAlike(int branch, int other) {
        index(branch, heads.size());
        index(other, heads.size());
        return merged(heads.get(branch), heads.get(other))
                .equals(merged(heads.get(other), heads.get(branch)));
    }

    int pick(int branch, int commit) {
        index(branch, heads.size());
        index(commit, commits.size());
        operation(parents(commit) == 1);
        int parent = parentAt(commit, 0);
        int head = heads.get(branch);
        List<TreeSet<Integer>> all = new ArrayList<>();
        for (int item = 0; item < 12; item++) {
            TreeSet<Integer> sides = new TreeSet<>(held(head, item));
            if (!held(commit, item).equals(held(parent, item))) {
                if (held(head, item).equals(held(parent, item))) {
                    sides.clear();
                }
                sides.addAll(held(commit, item));
            }
            all.add(sides);
        }
        return add(branch, all, -1);
    }

    int quote(int item, int other, int shift) {
        index(item, kinds.length());
        index(other, kinds.length());
        argument(item != other && shift >= -99 && shift <= 99);
        state(quotes.size() < 10);
        quotes.add(new Quote(item, other, shift));
        return quotes.size() - 1;
    }

    boolean isBroken(int quote, int commit) {
        index(quote, quotes.size());
        index(commit, commits.size());
        return isBroken(quotes.get(quote), commits.get(commit).held);
    }

    int broken(int commit) {
        index(commit, commits.size());
        int count = 0;
        for (int quote = 0; quote < quotes.size(); quote++) {
            count += isBroken(quote, commit) ? 1 : 0;
        }
        return count;
    }

    long sum(int commit) {
        index(commit, commits.size());
        long sum = 0;
        for (TreeSet<Integer> sides : commits.get(commit).held) {
            sum += sides.size() == 1 && sides.first() != NOTHING ? sides.first() : 0;
        }
        return sum;
    }

    float conflictShare(int commit) {
        int conflicts = conflicts(commit);
        element(kinds.length() > 0);
        return (float) conflicts / (float) kinds.length();
    }

    private TreeSet<Integer> held(int commit, int item) {
        return commits.get(commit).held.get(item);
    }

    private static int conflictsOf(List<TreeSet<Integer>> all) {
        int count = 0;
        for (TreeSet<Integer> sides : all) {
            count += sides.size() > 1 ? 1 : 0;
        }
        return count;
    }

    private TreeSet<Integer> ancestors(int commit) {
        TreeSet<Integer> found = new TreeSet<>(List.of(commit));
        for (int at = commit; at >= 0; at--) {
            if (found.contains(at)) {
                found.addAll(commits.get(at).parents);
            }
        }
        return found;
    }

    private int change(int branch, int item, int side) {
        List<TreeSet<Integer>> all = new ArrayList<>(commits.get(heads.get(branch)).held);
        all.set(item, new TreeSet<>(List.of(side)));
        return add(branch, all, -1);
    }

    private int add(int branch, List<TreeSet<Integer>> all, int second) {
        state(commits.size() < 100);
        Commit commit = new Commit();
        commit.held.addAll(all);
        commit.parents.add(heads.get(branch));
        if (second >= 0) {
            commit.parents.add(second);
        }
        commits.add(commit);
        heads.set(branch, commits.size() - 1);
        return commits.size() - 1;
    }

    private TreeSet<Integer> together(int first, int second, int item) {
        TreeSet<Integer> sides = new TreeSet<>(held(first, item));
        sides.addAll(held(second, item));
        return sides;
    }

    private List<TreeSet<Integer>> merged(int first, int second) {
        int base = base(first, second);
        List<TreeSet<Integer>> all = new ArrayList<>();
        for (int item = 0; item < 12; item++) {
            if (held(first, item).equals(held(second, item))) {
                all.add(held(first, item));
            } else if (held(first, item).equals(held(base, item))) {
                all.add(held(second, item));
            } else if (held(second, item).equals(held(base, item))) {
                all.add(held(first, item));
            } else {
                all.add(together(first, second, item));
            }
        }
        for (Quote quote : quotes) {
            if (isWhole(quote, commits.get(first).held) && isWhole(quote, commits.get(second).held)
                    && isBroken(quote, all)) {
                all.set(quote.item, together(first, second, quote.item));
                all.set(quote.other, together(first, second, quote.other));
            }
        }
        return all;
    }

    private static boolean isOpen(Quote quote, List<TreeSet<Integer>> all) {
        return all.get(quote.item).size() > 1 || all.get(quote.other).size() > 1;
    }

    private static boolean isBroken(Quote quote, List<TreeSet<Integer>> all) {
        if (isOpen(quote, all)) {
            return false;
        }
        int value = all.get(quote.item).first();
        int other = all.get(quote.other).first();
        if (value == NOTHING && other == NOTHING) {
            return false;
        }
        return value == NOTHING || other == NOTHING || value != other + quote.shift;
    }

    private static boolean isWhole(Quote quote, List<TreeSet<Integer>> all) {
        return !isOpen(quote, all) && !isBroken(quote, all);
    }

    private static void index(int number, int count) {
        if (number < 0 || number >= count) {
            throw new IndexOutOfBoundsException();
        }
    }

    private static void argument(boolean right) {
        if (!right) {
            throw new IllegalArgumentException();
        }
    }

    private static void state(boolean right) {
        if (!right) {
            throw new IllegalStateException();
        }
    }

    private static void operation(boolean right) {
        if (!right) {
            throw new UnsupportedOperationException();
        }
    }

    private static void element(boolean right) {
        if (!right) {
            throw new NoSuchElementException();
        }
    }
}

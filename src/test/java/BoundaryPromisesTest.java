import java.util.Set;
import java.util.TreeSet;

/** Each sentence in the document's promises that names a boundary case, with a test of its own. */
public final class BoundaryPromisesTest {
    private static final String NO_INDEX = NoChange.NO_INDEX;
    private static final String NO_ARGUMENT = NoChange.NO_ARGUMENT;
    private static final String NO_STATE = NoChange.NO_STATE;
    private static final String NO_ELEMENT = NoChange.NO_ELEMENT;
    private static final String NO_OPERATION = NoChange.NO_OPERATION;
    private static final int NOTHING = -1000;

    private static final String NO_SUCH_ITEM = "Throws `IndexOutOfBoundsException` if there is no such item";
    private static final String NO_SUCH_BRANCH = "Throws `IndexOutOfBoundsException` if there is no such branch";
    private static final String NO_SUCH_COMMIT = "Throws `IndexOutOfBoundsException` if there is no such commit";
    private static final String FULL = "Throws `IllegalStateException` if there are 100 commits";

    /** Objects of which it is known how much there is in them. */
    private enum Filled {
        EMPTY(Start::empty, 0, 1, 1, 0),
        SOME(Start::withConflict, 3, 5, 2, 0),
        PACKED(Start::packed, 12, 100, 5, 10);

        final NoChange.Maker maker;
        final int items;
        final int commits;
        final int branches;
        final int quotes;

        Filled(NoChange.Maker maker, int items, int commits, int branches, int quotes) {
            this.maker = maker;
            this.items = items;
            this.commits = commits;
            this.branches = branches;
            this.quotes = quotes;
        }
    }

    private interface Count {
        int of(Filled filled);
    }

    private interface ByNumber {
        Object call(MergeAtelier x, int number);
    }

    private BoundaryPromisesTest() {
    }

    public static void main(String[] args) {
        promises01To05();
        promises06To08();
        promises09To11();
        promises12To15();
        promises16To18();
        promises19To23();
        promises24To27();
        promises28To32();
        Due.end("BoundaryPromisesTest");
    }

    private static void holds(int promise, String words, Runnable test) {
        Sentence.holds("Promise " + promise, words, test);
    }

    private static void due(Object want, String what, Due.Call call) {
        Sentence.due(want, what, call);
    }

    private static void refused(String want, String what, NoChange.Maker maker, NoChange.Use call) {
        Sentence.refused(want, what, maker, call);
    }

    private static void asked(Object want, String what, NoChange.Maker maker, NoChange.Use call) {
        Sentence.asked(want, what, maker, call);
    }

    // Numbers that nothing has: too small, one too large, and far too large.

    private static void wrongNumbers(String what, Count count, ByNumber use) {
        for (Filled filled : Filled.values()) {
            int there = count.of(filled);
            Set<Integer> numbers = new TreeSet<>();
            for (int number : new int[] {-1, -2, -64, there, there + 1, 10, 12, 100, 101, 102, 128, 1000}) {
                numbers.add(number);
            }
            numbers.add(Integer.MIN_VALUE);
            numbers.add(Integer.MAX_VALUE);
            for (int number : numbers) {
                if (number < 0 || number >= there) {
                    refused(NO_INDEX, filled + ", " + what + " " + number, filled.maker, x -> use.call(x, number));
                }
            }
        }
    }

    private static void noSuchItem(ByNumber use) {
        wrongNumbers("the item", filled -> filled.items, use);
    }

    private static void noSuchCommit(ByNumber use) {
        wrongNumbers("the commit", filled -> filled.commits, use);
    }

    private static void noSuchBranch(ByNumber use) {
        wrongNumbers("the branch", filled -> filled.branches, use);
    }

    private static void noSuchQuote(ByNumber use) {
        wrongNumbers("the quote", filled -> filled.quotes, use);
    }

    // Promises 1 to 5.

    private static void promises01To05() {
        holds(1, "Creates a tool without items, with the commit 0 and the branch 0.",
                BoundaryPromisesTest::newObject);
        holds(2, "Throws `IllegalArgumentException` if there is no such kind", () -> {
            for (Filled filled : Filled.values()) {
                for (int kind : new int[] {0, 'T', 'C', 'S', 'r', 'u', 'b', 'd', 't' + 128, 't' + 256, 0xffff}) {
                    refused(NO_ARGUMENT, filled + ", kind " + kind, filled.maker, x -> x.addItem((char) kind));
                }
            }
        });
        holds(2, "Throws `IllegalStateException` if there are 12 items", () -> {
            for (char kind : new char[] {'t', 'c', 's'}) {
                due(11, "the 12th item", () -> Start.withItems(11).addItem(kind));
                refused(NO_STATE, "a 13th item", () -> Start.withItems(12), x -> x.addItem(kind));
                refused(NO_STATE, "a 13th item of a packed object", Start::packed, x -> x.addItem(kind));
            }
        });
        holds(3, NO_SUCH_ITEM, () -> {
            due('t', "kindOf(0)", () -> Start.packed().kindOf(0));
            due('s', "kindOf(11)", () -> Start.packed().kindOf(11));
            noSuchItem((x, item) -> x.kindOf(item));
        });
        holds(4, NO_SUCH_COMMIT, () -> {
            due(1, "addBranch(0) of a new object", () -> new MergeAtelier().addBranch(0));
            due(1, "addBranch(99)", () -> Start.full().addBranch(99));
            noSuchCommit((x, commit) -> x.addBranch(commit));
        });
        holds(4, "Throws `IllegalStateException` if there are 5 branches", () -> {
            due(4, "the 5th branch", () -> withBranches(4).addBranch(0));
            refused(NO_STATE, "a 6th branch", () -> withBranches(5), x -> x.addBranch(0));
            refused(NO_STATE, "a 6th branch of a packed object", Start::packed, x -> x.addBranch(99));
        });
        holds(5, NO_SUCH_BRANCH, () -> {
            due(0, "head(0) of a new object", () -> new MergeAtelier().head(0));
            due(94, "head(4)", () -> Start.packed().head(4));
            noSuchBranch((x, branch) -> x.head(branch));
        });
    }

    private static MergeAtelier withBranches(int branches) {
        MergeAtelier x = new MergeAtelier();
        for (int branch = 1; branch < branches; branch++) {
            x.addBranch(0);
        }
        return x;
    }

    private static void newObject() {
        MergeAtelier x = new MergeAtelier();
        due(1, "commits()", () -> x.commits());
        due(0, "parents(0)", () -> x.parents(0));
        due(0, "head(0)", () -> x.head(0));
        due(NO_INDEX, "head(1)", () -> x.head(1));
        due(NO_INDEX, "kindOf(0)", () -> x.kindOf(0));
        due(NO_INDEX, "sides(0, 0)", () -> x.sides(0, 0));
        due(NO_INDEX, "isBroken(0, 0)", () -> x.isBroken(0, 0));
        due(true, "isAncestor(0, 0)", () -> x.isAncestor(0, 0));
        due(0, "base(0, 0)", () -> x.base(0, 0));
        due(0, "conflicts(0)", () -> x.conflicts(0));
        due(NO_ELEMENT, "firstConflict(0)", () -> x.firstConflict(0));
        due(0, "differences(0, 0)", () -> x.differences(0, 0));
        due(0, "blamed(0, 0)", () -> x.blamed(0, 0));
        due(NO_OPERATION, "merge(0, 0)", () -> x.merge(0, 0));
        due(0, "wouldConflict(0, 0)", () -> x.wouldConflict(0, 0));
        due(true, "isAlike(0, 0)", () -> x.isAlike(0, 0));
        due(NO_OPERATION, "pick(0, 0)", () -> x.pick(0, 0));
        due(0, "broken(0)", () -> x.broken(0));
        due(0L, "sum(0)", () -> x.sum(0));
        due(NO_ELEMENT, "conflictShare(0)", () -> x.conflictShare(0));
        due(-1, "tag(9, 0)", () -> x.tag(9, 0));
        due(0, "addItem", () -> x.addItem('t'));
    }

    // Promises 6 to 8.

    private static void promises06To08() {
        holds(6, NO_SUCH_BRANCH + " or item", () -> {
            due(1, "set(4, 11, 5)", () -> wide().set(4, 11, 5));
            noSuchBranch((x, branch) -> x.set(branch, 0, 5));
            noSuchItem((x, item) -> x.set(0, item, 5));
        });
        holds(6, "Throws `IllegalArgumentException` if the value is not between -999 and 999", () -> {
            for (int value : new int[] {-999, -998, 0, 998, 999}) {
                due(5, "set to " + value, () -> Start.withConflict().set(0, 0, value));
            }
            for (int value : new int[] {-1000, -1001, 1000, 1001, 65536, Integer.MIN_VALUE, Integer.MAX_VALUE}) {
                refused(NO_ARGUMENT, "set to " + value, Start::withConflict, x -> x.set(0, 0, value));
            }
        });
        holds(6, FULL, () -> {
            due(99, "set that makes the commit 99", () -> Start.almostFull().set(0, 0, 5));
            refused(NO_STATE, "set", Start::packed, x -> x.set(0, 0, 5));
            refused(NO_STATE, "set to what it holds", Start::full, x -> x.set(0, 0, 99));
        });
        holds(7, NO_SUCH_BRANCH + " or item", () -> {
            due(13, "clear(4, 11)", () -> wideAndSet().clear(4, 11));
            noSuchBranch((x, branch) -> x.clear(branch, 0));
            noSuchItem((x, item) -> x.clear(0, item));
        });
        holds(7, "Throws `UnsupportedOperationException` if it holds nothing, and no other side, in the head", () -> {
            refused(NO_OPERATION, "clear of a new item", () -> Start.withItems(1), x -> x.clear(0, 0));
            refused(NO_OPERATION, "clear of what is cleared", BoundaryPromisesTest::cleared, x -> x.clear(0, 0));
            refused(NO_OPERATION, "clear in a head without it", BoundaryPromisesTest::wideAndSet, x -> x.clear(0, 0));
            due(5, "clear of nothing and a value", () -> Start.withHalfConflict().clear(0, 0));
            due(2, "clear of the value 0", () -> withChange(0).clear(0, 0));
            due(2, "clear of the value -999", () -> withChange(-999).clear(0, 0));
            due(13, "clear in the head that holds it", () -> wideAndSet().clear(4, 0));
        });
        holds(7, FULL, () -> {
            due(99, "clear that makes the commit 99", () -> Start.almostFull().clear(0, 0));
            refused(NO_STATE, "clear", Start::packed, x -> x.clear(0, 0));
        });
        holds(8, NO_SUCH_BRANCH + " or item", () -> {
            noSuchBranch((x, branch) -> x.settle(branch, 0, 0));
            noSuchItem((x, item) -> x.settle(0, item, 0));
        });
        holds(8, "Throws `UnsupportedOperationException` if the item holds no conflict in the head", () -> {
            refused(NO_OPERATION, "settle of a value", Start::withConflict, x -> x.settle(0, 0, 0));
            refused(NO_OPERATION, "settle of nothing", Start::withConflict, x -> x.settle(0, 2, 0));
            refused(NO_OPERATION, "settle in another head", Start::withConflict, x -> x.settle(1, 1, 0));
            refused(NO_OPERATION, "settle of what is settled", BoundaryPromisesTest::settled, x -> x.settle(0, 1, 0));
            due(5, "settle of a conflict", () -> Start.withConflict().settle(0, 1, 0));
        });
        holds(8, "Throws `NoSuchElementException` if there is no such side", BoundaryPromisesTest::settleToSides);
        holds(8, FULL, () -> {
            due(99, "settle that makes the commit 99", () -> Start.almostFull().settle(0, 1, 1));
            refused(NO_STATE, "settle to the first side", Start::packed, x -> x.settle(0, 0, 0));
            refused(NO_STATE, "settle to the last side", Start::packed, x -> x.settle(0, 0, 1));
        });
    }

    /** 12 items and 5 branches. */
    private static MergeAtelier wide() {
        MergeAtelier x = Start.withItems(12);
        for (int branch = 1; branch < 5; branch++) {
            x.addBranch(0);
        }
        return x;
    }

    /** A wide object in whose branch 4 each item holds a value. */
    private static MergeAtelier wideAndSet() {
        MergeAtelier x = wide();
        for (int item = 0; item < 12; item++) {
            x.set(4, item, item);
        }
        return x;
    }

    /** 12 items; the item 0 holds a conflict in the commit 3, and no item does in the commits before. */
    private static MergeAtelier wideAndMerged() {
        MergeAtelier x = wide();
        x.set(0, 0, 1);
        x.set(1, 0, 2);
        x.merge(0, 1);
        return x;
    }

    private static MergeAtelier withChange(int value) {
        MergeAtelier x = Start.withItems(1);
        x.set(0, 0, value);
        return x;
    }

    private static MergeAtelier cleared() {
        MergeAtelier x = withChange(5);
        x.clear(0, 0);
        return x;
    }

    private static MergeAtelier settled() {
        MergeAtelier x = Start.withConflict();
        x.settle(0, 1, 0);
        return x;
    }

    private static void settleToSides() {
        for (int index : new int[] {-1, 2, 3, Integer.MIN_VALUE, Integer.MAX_VALUE}) {
            refused(NO_ELEMENT, "settle to " + index + " of 2", Start::withConflict, x -> x.settle(0, 1, index));
        }
        for (int index : new int[] {-1, 7, 8}) {
            refused(NO_ELEMENT, "settle to " + index + " of 7", Start::withManySides, x -> x.settle(0, 0, index));
        }
        int[] sides = {-999, -70, -3, 0, 2, 40, 999};
        for (int i = 0; i < sides.length; i++) {
            MergeAtelier x = Start.withManySides();
            int index = i;
            due(x.commits(), "settle to " + i, () -> x.settle(0, 0, index));
            Sentence.sidesDue(x, x.head(0), 0, sides[i]);
        }
        MergeAtelier half = Start.withHalfConflict();
        due(5, "settle to nothing", () -> half.settle(0, 0, 0));
        Sentence.sidesDue(half, 5, 0, NOTHING);
    }

    // Promises 9 to 11.

    private static void promises09To11() {
        int[] wrongTags = {-1, -2, 10, 11, 12, Integer.MIN_VALUE, Integer.MAX_VALUE};
        holds(9, "Returns the number of the commit that it kept before, or -1.", () -> {
            MergeAtelier x = Start.full();
            for (int i = 0; i < 10; i++) {
                int tag = i;
                due(-1, "tag(" + tag + ", 99)", () -> x.tag(tag, 99));
                due(99, "tag(" + tag + ", 0)", () -> x.tag(tag, 0));
                due(0, "tag(" + tag + ", 0) again", () -> x.tag(tag, 0));
                due(0, "tag(" + tag + ", 5)", () -> x.tag(tag, 5));
                due(5, "tagged(" + tag + ")", () -> x.tagged(tag));
            }
        });
        holds(9, NO_SUCH_COMMIT, () -> noSuchCommit((x, commit) -> x.tag(0, commit)));
        holds(9, "Throws `IllegalArgumentException` if there is no such tag", () -> {
            for (Filled filled : Filled.values()) {
                for (int tag : wrongTags) {
                    refused(NO_ARGUMENT, filled + ", tag " + tag, filled.maker, x -> x.tag(tag, 0));
                }
            }
        });
        holds(10, "Throws `IllegalArgumentException` if there is no such tag", () -> {
            for (Filled filled : Filled.values()) {
                for (int tag : wrongTags) {
                    refused(NO_ARGUMENT, filled + ", tag " + tag, filled.maker, x -> x.tagged(tag));
                }
            }
        });
        holds(10, "Throws `NoSuchElementException` if it keeps none", () -> {
            for (int i = 0; i < 10; i++) {
                int tag = i;
                refused(NO_ELEMENT, "tagged(" + tag + ")", Start::withConflict, x -> x.tagged(tag));
                refused(NO_ELEMENT, "tagged(" + tag + ") beside other tags", () -> taggedAllBut(tag),
                        x -> x.tagged(tag));
                due(11 * tag, "tagged(" + tag + ") of a tag that keeps one", () -> Start.packed().tagged(tag));
            }
            due(0, "tagged(0) of a tag that keeps the commit 0", () -> taggedAllBut(9).tagged(0));
        });
        holds(11, "Returns the number of commits.", () -> {
            due(1, "commits() of a new object", () -> new MergeAtelier().commits());
            due(2, "commits() after a change", () -> withChange(0).commits());
            due(99, "commits() of an almost full object", () -> Start.almostFull().commits());
            due(100, "commits() of a full object", () -> Start.packed().commits());
        });
    }

    private static MergeAtelier taggedAllBut(int none) {
        MergeAtelier x = new MergeAtelier();
        for (int tag = 0; tag < 10; tag++) {
            if (tag != none) {
                x.tag(tag, 0);
            }
        }
        return x;
    }

    // Promises 12 to 15.

    private static void promises12To15() {
        holds(12, NO_SUCH_COMMIT, () -> {
            due(0, "parents(0)", () -> Start.packed().parents(0));
            due(1, "parents(99)", () -> Start.packed().parents(99));
            noSuchCommit((x, commit) -> x.parents(commit));
        });
        holds(13, NO_SUCH_COMMIT, () -> {
            due(98, "parentAt(99, 0)", () -> Start.full().parentAt(99, 0));
            noSuchCommit((x, commit) -> x.parentAt(commit, 0));
        });
        holds(13, "Throws `NoSuchElementException` if there is no such parent", () -> {
            int[] wrong = {-1, -2, 2, 3, 100, Integer.MIN_VALUE, Integer.MAX_VALUE};
            for (int index : wrong) {
                for (int commit : new int[] {0, 1, 4}) {
                    refused(NO_ELEMENT, "parentAt(" + commit + ", " + index + ")", Start::withConflict,
                            x -> x.parentAt(commit, index));
                }
            }
            refused(NO_ELEMENT, "parentAt(0, 0)", Start::withConflict, x -> x.parentAt(0, 0));
            refused(NO_ELEMENT, "parentAt(0, 1)", Start::withConflict, x -> x.parentAt(0, 1));
            refused(NO_ELEMENT, "parentAt(1, 1)", Start::withConflict, x -> x.parentAt(1, 1));
            due(0, "parentAt(1, 0)", () -> Start.withConflict().parentAt(1, 0));
            due(2, "parentAt(4, 0)", () -> Start.withConflict().parentAt(4, 0));
            due(3, "parentAt(4, 1)", () -> Start.withConflict().parentAt(4, 1));
        });
        holds(14, NO_SUCH_COMMIT + ", for either", () -> {
            due(true, "isAncestor(99, 99)", () -> Start.packed().isAncestor(99, 99));
            noSuchCommit((x, commit) -> x.isAncestor(commit, 0));
            noSuchCommit((x, commit) -> x.isAncestor(0, commit));
            noSuchCommit((x, commit) -> x.isAncestor(commit, commit));
        });
        holds(15, NO_SUCH_COMMIT + ", for either", () -> {
            due(99, "base(99, 99)", () -> Start.packed().base(99, 99));
            noSuchCommit((x, commit) -> x.base(commit, 0));
            noSuchCommit((x, commit) -> x.base(0, commit));
            noSuchCommit((x, commit) -> x.base(commit, commit));
        });
    }

    // Promises 16 to 18.

    private static void promises16To18() {
        holds(16, NO_SUCH_COMMIT + " or item", () -> {
            due(2, "sides(98, 0)", () -> Start.packed().sides(98, 0));
            due(1, "sides(99, 11)", () -> Start.packed().sides(99, 11));
            noSuchCommit((x, commit) -> x.sides(commit, 0));
            noSuchItem((x, item) -> x.sides(0, item));
        });
        holds(17, "Returns the value, or -1000 for nothing.", () -> {
            due(NOTHING, "sideAt of nothing", () -> Start.packed().sideAt(99, 11, 0));
            due(-999, "sideAt of -999", () -> withChange(-999).sideAt(1, 0, 0));
            due(0, "sideAt of 0", () -> withChange(0).sideAt(1, 0, 0));
            due(999, "sideAt of 999", () -> withChange(999).sideAt(1, 0, 0));
        });
        holds(17, NO_SUCH_COMMIT + " or item", () -> {
            due(2, "sideAt(98, 0, 1)", () -> Start.packed().sideAt(98, 0, 1));
            noSuchCommit((x, commit) -> x.sideAt(commit, 0, 0));
            noSuchItem((x, item) -> x.sideAt(0, item, 0));
        });
        holds(17, "Throws `NoSuchElementException` if there is no such side",
                () -> noSuchSide((x, commit, item, index) -> x.sideAt(commit, item, index)));
        holds(18, "Returns the value, or -1000 for nothing.", () -> {
            due(NOTHING, "sideByLog of nothing", () -> Start.packed().sideByLog(99, 11, 0));
            due(-999, "sideByLog of -999", () -> withChange(-999).sideByLog(1, 0, 0));
            due(0, "sideByLog of 0", () -> withChange(0).sideByLog(1, 0, 0));
            due(999, "sideByLog of 999", () -> withChange(999).sideByLog(1, 0, 0));
        });
        holds(18, "Returns the same side, found from the log of all that was done.",
                BoundaryPromisesTest::sameSidesByLog);
        holds(18, NO_SUCH_COMMIT + " or item", () -> {
            due(2, "sideByLog(98, 0, 1)", () -> Start.packed().sideByLog(98, 0, 1));
            noSuchCommit((x, commit) -> x.sideByLog(commit, 0, 0));
            noSuchItem((x, item) -> x.sideByLog(0, item, 0));
        });
        holds(18, "Throws `NoSuchElementException` if there is no such side",
                () -> noSuchSide((x, commit, item, index) -> x.sideByLog(commit, item, index)));
    }

    private interface SideAsk {
        int ask(MergeAtelier x, int commit, int item, int index);
    }

    private static void noSuchSide(SideAsk side) {
        for (int index : new int[] {-1, -2, 2, 3, 100, Integer.MIN_VALUE, Integer.MAX_VALUE}) {
            refused(NO_ELEMENT, "side " + index + " of 2", Start::withConflict, x -> side.ask(x, 4, 1, index));
            refused(NO_ELEMENT, "side " + index + " of 1", Start::withConflict, x -> side.ask(x, 4, 0, index));
            refused(NO_ELEMENT, "side " + index + " of nothing", Start::withConflict, x -> side.ask(x, 0, 0, index));
        }
        refused(NO_ELEMENT, "side 1 of 1", Start::withConflict, x -> side.ask(x, 4, 0, 1));
        refused(NO_ELEMENT, "side 1 of nothing", Start::withConflict, x -> side.ask(x, 4, 2, 1));
        refused(NO_ELEMENT, "side 7 of 7", Start::withManySides, x -> side.ask(x, 13, 0, 7));
        refused(NO_ELEMENT, "side 2 of 2 in a packed object", Start::packed, x -> side.ask(x, 98, 0, 2));
        due(-4, "the first side of 2", () -> side.ask(Start.withConflict(), 4, 1, 0));
        due(7, "the last side of 2", () -> side.ask(Start.withConflict(), 4, 1, 1));
        due(-999, "the first side of 7", () -> side.ask(Start.withManySides(), 13, 0, 0));
        due(999, "the last side of 7", () -> side.ask(Start.withManySides(), 13, 0, 6));
        due(NOTHING, "the first side of nothing and 2", () -> side.ask(Start.withHalfConflict(), 4, 0, 0));
        due(2, "the last side of nothing and 2", () -> side.ask(Start.withHalfConflict(), 4, 0, 1));
    }

    private static void sameSidesByLog() {
        asked(2, "sideByLog, and nothing is changed", Start::packed, x -> x.sideByLog(98, 0, 1));
        for (int item = 0; item < 12; item++) {
            MergeAtelier x = Start.packed();
            int number = item;
            for (int commit = 0; commit < 100; commit++) {
                int at = commit;
                int last = x.sides(commit, item) - 1;
                due(x.sideAt(commit, item, last), "the last side of " + item + " in " + commit,
                        () -> x.sideByLog(at, number, last));
            }
        }
    }

    // Promises 19 to 23.

    private static void promises19To23() {
        holds(19, "Returns how many items hold conflicts in a commit.", () -> {
            due(0, "conflicts without items", () -> new MergeAtelier().conflicts(0));
            due(0, "conflicts of none", () -> Start.withConflict().conflicts(3));
            due(1, "conflicts of one", () -> Start.withConflict().conflicts(4));
            due(12, "conflicts of all", () -> Start.withAllInConflict().conflicts(25));
            due(1, "conflicts of nothing and a value", () -> Start.withHalfConflict().conflicts(4));
        });
        holds(19, NO_SUCH_COMMIT, () -> noSuchCommit((x, commit) -> x.conflicts(commit)));
        holds(20, "Returns the lowest item that holds a conflict in a commit.", () -> {
            MergeAtelier x = Start.withAllInConflict();
            for (int item = 0; item < 12; item++) {
                due(item, "firstConflict", () -> x.firstConflict(x.head(0)));
                x.settle(0, item, 0);
            }
        });
        holds(20, NO_SUCH_COMMIT, () -> noSuchCommit((x, commit) -> x.firstConflict(commit)));
        holds(20, "Throws `NoSuchElementException` if there is none", () -> {
            refused(NO_ELEMENT, "firstConflict without items", Start::empty, x -> x.firstConflict(0));
            refused(NO_ELEMENT, "firstConflict of none", Start::withConflict, x -> x.firstConflict(3));
            refused(NO_ELEMENT, "firstConflict of what is settled", BoundaryPromisesTest::settled,
                    x -> x.firstConflict(5));
            refused(NO_ELEMENT, "firstConflict(0) of a packed object", Start::packed, x -> x.firstConflict(0));
            refused(NO_ELEMENT, "firstConflict before the commit of one", BoundaryPromisesTest::wideAndMerged,
                    x -> x.firstConflict(2));
            due(0, "firstConflict of the commit behind it", () -> wideAndMerged().firstConflict(3));
        });
        holds(21, "Returns how many items do not hold the same sides in two commits.", () -> {
            due(0, "differences without items", () -> new MergeAtelier().differences(0, 0));
            due(0, "differences of a commit and itself", () -> Start.packed().differences(99, 99));
            due(12, "differences of all", () -> Start.withAllInConflict().differences(25, 0));
            due(12, "differences of conflicts and their sides", () -> Start.withAllInConflict().differences(25, 24));
            due(1, "differences of nothing and 0", () -> withChange(0).differences(0, 1));
        });
        holds(21, NO_SUCH_COMMIT + ", for either", () -> {
            noSuchCommit((x, commit) -> x.differences(commit, 0));
            noSuchCommit((x, commit) -> x.differences(0, commit));
            noSuchCommit((x, commit) -> x.differences(commit, commit));
        });
        holds(22, NO_SUCH_COMMIT + " or item", () -> {
            due(99, "blame(99, 0)", () -> Start.full().blame(99, 0));
            due(0, "blame(99, 11)", () -> Start.packed().blame(99, 11));
            noSuchCommit((x, commit) -> x.blame(commit, 0));
            noSuchItem((x, item) -> x.blame(0, item));
        });
        holds(23, "Returns for how many items the blame in a commit is the other commit.", () -> {
            due(0, "blamed without items", () -> new MergeAtelier().blamed(0, 0));
            due(12, "blamed of all for the commit 0", () -> Start.packed().blamed(0, 0));
            due(12, "blamed of all for a merge", () -> Start.withAllInConflict().blamed(25, 25));
            due(0, "blamed of none", () -> Start.withAllInConflict().blamed(25, 0));
            due(0, "blamed of a later commit", () -> Start.packed().blamed(0, 99));
        });
        holds(23, NO_SUCH_COMMIT + ", for either", () -> {
            noSuchCommit((x, commit) -> x.blamed(commit, 0));
            noSuchCommit((x, commit) -> x.blamed(0, commit));
            noSuchCommit((x, commit) -> x.blamed(commit, commit));
        });
    }

    // Promises 24 to 27.

    private static void promises24To27() {
        holds(24, NO_SUCH_BRANCH + ", for either", () -> {
            due(2, "merge(4, 0)", () -> mergeable().merge(4, 0));
            due(2, "merge(3, 0)", () -> mergeable().merge(3, 0));
            noSuchBranch((x, branch) -> x.merge(branch, 0));
            noSuchBranch((x, branch) -> x.merge(0, branch));
            noSuchBranch((x, branch) -> x.merge(branch, branch));
        });
        holds(24, "Throws `UnsupportedOperationException` if the head of the other branch is an ancestor of that of"
                + " the branch", BoundaryPromisesTest::mergeOfAncestor);
        holds(24, FULL, () -> {
            due(99, "merge that makes the commit 99", () -> Start.almostFull().merge(0, 1));
            refused(NO_STATE, "merge", Start::packed, x -> x.merge(0, 1));
            refused(NO_STATE, "merge the other way round", Start::fullAndApart, x -> x.merge(1, 0));
        });
        holds(25, "Returns how many items would hold conflicts by a merge of the heads of two branches, if it was"
                + " made.", BoundaryPromisesTest::conflictsOfMergesNotMade);
        holds(25, NO_SUCH_BRANCH + ", for either", () -> {
            noSuchBranch((x, branch) -> x.wouldConflict(branch, 0));
            noSuchBranch((x, branch) -> x.wouldConflict(0, branch));
            noSuchBranch((x, branch) -> x.wouldConflict(branch, branch));
        });
        holds(26, "Tells whether a merge of the heads of two branches tells the same sides for all items either way"
                + " round.", BoundaryPromisesTest::alikeEitherWay);
        holds(26, NO_SUCH_BRANCH + ", for either", () -> {
            noSuchBranch((x, branch) -> x.isAlike(branch, 0));
            noSuchBranch((x, branch) -> x.isAlike(0, branch));
            noSuchBranch((x, branch) -> x.isAlike(branch, branch));
        });
        holds(27, NO_SUCH_BRANCH + " or commit", () -> {
            due(2, "pick(4, 1)", () -> mergeable().pick(4, 1));
            due(99, "pick(0, 98)", () -> Start.almostFull().pick(0, 98));
            noSuchBranch((x, branch) -> x.pick(branch, 0));
            noSuchCommit((x, commit) -> x.pick(0, commit));
        });
        holds(27, "Throws `UnsupportedOperationException` if the commit does not have one parent", () -> {
            refused(NO_OPERATION, "pick of the commit 0 of a new object", Start::empty, x -> x.pick(0, 0));
            refused(NO_OPERATION, "pick of the commit 0", Start::withConflict, x -> x.pick(1, 0));
            refused(NO_OPERATION, "pick of a merge", Start::withConflict, x -> x.pick(1, 4));
            due(5, "pick of a commit with one parent", () -> Start.withConflict().pick(1, 2));
            due(6, "pick of a child of a merge", () -> settled().pick(1, 5));
        });
        holds(27, FULL, () -> {
            due(99, "pick that makes the commit 99", () -> Start.almostFull().pick(0, 1));
            refused(NO_STATE, "pick", Start::packed, x -> x.pick(0, 1));
            refused(NO_STATE, "pick of the last commit", Start::packed, x -> x.pick(0, 99));
        });
    }

    /** 5 branches; the head of the branch 0 is the commit 1, the others have the head 0. */
    private static MergeAtelier mergeable() {
        MergeAtelier x = wide();
        x.set(0, 0, 1);
        return x;
    }

    private static void mergeOfAncestor() {
        refused(NO_OPERATION, "merge of a branch with itself", Start::withConflict, x -> x.merge(0, 0));
        refused(NO_OPERATION, "merge of the same head", BoundaryPromisesTest::wide, x -> x.merge(3, 4));
        refused(NO_OPERATION, "merge of the parent", () -> branchAt(3), x -> x.merge(0, 2));
        refused(NO_OPERATION, "merge of the first parent", () -> branchAt(2), x -> x.merge(0, 2));
        refused(NO_OPERATION, "merge of the commit 0", () -> branchAt(0), x -> x.merge(0, 2));
        refused(NO_OPERATION, "merge of what was merged", Start::withConflict, x -> x.merge(0, 1));
        due(5, "merge of a descendant", () -> Start.withConflict().merge(1, 0));
        due(5, "merge of a descendant into the commit 0", () -> branchAt(0).merge(2, 0));
        due(5, "merge of one beside it", () -> branchAt(2).merge(1, 2));
    }

    private static MergeAtelier branchAt(int commit) {
        MergeAtelier x = Start.withConflict();
        x.addBranch(commit);
        return x;
    }

    private static void conflictsOfMergesNotMade() {
        for (int i = 0; i <= 12; i++) {
            MergeAtelier x = Start.withItems(12);
            x.addBranch(0);
            for (int item = 0; item < i; item++) {
                x.set(0, item, 1);
                x.set(1, item, 2);
            }
            due(i, "wouldConflict of " + i + " items", () -> x.wouldConflict(0, 1));
            due(i, "wouldConflict the other way round", () -> x.wouldConflict(1, 0));
            due(2 * i + 1, "commits()", () -> x.commits());
        }
        due(0, "wouldConflict without items", () -> new MergeAtelier().wouldConflict(0, 0));
        due(1, "wouldConflict of a head with a conflict and itself", () -> Start.withConflict().wouldConflict(0, 0));
        due(1, "wouldConflict of an ancestor", () -> Start.withConflict().wouldConflict(0, 1));
        due(1, "wouldConflict of a full object", () -> Start.fullAndApart().wouldConflict(0, 1));
        asked(1, "wouldConflict, and nothing is made", Start::withConflict, x -> x.wouldConflict(1, 0));
        asked(Start.packed().wouldConflict(1, 0), "wouldConflict of a packed object, and nothing is made",
                Start::packed, x -> x.wouldConflict(0, 1));
        MergeAtelier x = Start.almostFull();
        due(x.wouldConflict(0, 1), "conflicts of the merge that is made", () -> x.conflicts(x.merge(0, 1)));
    }

    private static void alikeEitherWay() {
        due(true, "isAlike without items", () -> new MergeAtelier().isAlike(0, 0));
        for (int branch = 0; branch < 5; branch++) {
            for (int other = 0; other < 5; other++) {
                int one = branch;
                int two = other;
                due(true, "isAlike(" + branch + ", " + other + ")", () -> Start.packed().isAlike(one, two));
            }
        }
        MergeAtelier tied = Start.crossed();
        tied.quote(0, 1, 0);
        due(true, "isAlike with a quote that the merge breaks", () -> tied.isAlike(1, 0));
        due(5, "commits()", () -> tied.commits());
        asked(true, "isAlike, and nothing is made", Start::withConflict, x -> x.isAlike(0, 1));
        asked(true, "isAlike of a packed object, and nothing is made", Start::packed, x -> x.isAlike(0, 1));
    }

    // Promises 28 to 32.

    private static void promises28To32() {
        holds(28, NO_SUCH_ITEM + ", for either", () -> {
            due(0, "quote(11, 0, 0)", () -> wide().quote(11, 0, 0));
            due(0, "quote(0, 11, 0)", () -> wide().quote(0, 11, 0));
            noSuchItem((x, item) -> x.quote(item, 0, 0));
            noSuchItem((x, item) -> x.quote(0, item, 0));
            noSuchItem((x, item) -> x.quote(item, item, 0));
        });
        holds(28, "Throws `IllegalArgumentException` if both are the same, or the shift is not between -99 and 99",
                BoundaryPromisesTest::wrongQuotes);
        holds(28, "Throws `IllegalStateException` if there are 10 quotes", () -> {
            due(9, "the 10th quote", () -> withQuotes(9).quote(0, 1, 0));
            refused(NO_STATE, "an 11th quote", () -> withQuotes(10), x -> x.quote(0, 1, 0));
            refused(NO_STATE, "an 11th quote of a packed object", Start::packed, x -> x.quote(11, 0, 99));
        });
        holds(29, "Throws `IndexOutOfBoundsException` if there is no such quote or commit", () -> {
            due(false, "isBroken(9, 0)", () -> withQuotes(10).isBroken(9, 0));
            noSuchQuote((x, quote) -> x.isBroken(quote, 0));
            noSuchCommit((x, commit) -> x.isBroken(0, commit));
        });
        holds(30, "Returns how many quotes are broken in a commit.", () -> {
            for (int i = 0; i <= 10; i++) {
                MergeAtelier x = withQuotes(i);
                x.set(0, 0, 5);
                due(0, "broken(0) of " + i, () -> x.broken(0));
                due(i, "broken(1) of " + i, () -> x.broken(1));
            }
            due(0, "broken(0) of a new object", () -> new MergeAtelier().broken(0));
        });
        holds(30, NO_SUCH_COMMIT, () -> noSuchCommit((x, commit) -> x.broken(commit)));
        holds(31, "Returns the sum of the values of all items that hold one value, and no other side, in a commit.",
                BoundaryPromisesTest::sums);
        holds(31, NO_SUCH_COMMIT, () -> noSuchCommit((x, commit) -> x.sum(commit)));
        holds(32, "Returns their number divided by that of all items, both converted to float.",
                BoundaryPromisesTest::shares);
        holds(32, NO_SUCH_COMMIT, () -> noSuchCommit((x, commit) -> x.conflictShare(commit)));
        holds(32, "Throws `NoSuchElementException` if there are no items", () -> {
            refused(NO_ELEMENT, "conflictShare without items", Start::empty, x -> x.conflictShare(0));
            due(0f, "conflictShare with one item", () -> Start.withItems(1).conflictShare(0));
        });
    }

    private static MergeAtelier withQuotes(int quotes) {
        MergeAtelier x = Start.withItems(2);
        for (int quote = 0; quote < quotes; quote++) {
            x.quote(0, 1, quote);
        }
        return x;
    }

    private static void wrongQuotes() {
        for (int i = 0; i < 12; i++) {
            int item = i;
            refused(NO_ARGUMENT, "quote of " + item + " by itself", () -> Start.withItems(12),
                    x -> x.quote(item, item, 0));
        }
        for (int shift : new int[] {-99, -98, 0, 98, 99}) {
            due(0, "the shift " + shift, () -> Start.withConflict().quote(0, 1, shift));
        }
        for (int shift : new int[] {-100, -101, 100, 101, 355, -65536, Integer.MIN_VALUE, Integer.MAX_VALUE}) {
            refused(NO_ARGUMENT, "the shift " + shift, Start::withConflict, x -> x.quote(0, 1, shift));
        }
    }

    private static void sums() {
        due(0L, "sum without items", () -> new MergeAtelier().sum(0));
        due(0L, "sum of nothing", () -> Start.withConflict().sum(0));
        due(5L, "sum beside a conflict and nothing", () -> Start.withConflict().sum(4));
        due(0L, "sum of conflicts", () -> Start.withAllInConflict().sum(25));
        due(0L, "sum of a conflict of nothing and a value", () -> Start.withHalfConflict().sum(4));
        for (int value : new int[] {-999, 0, 999}) {
            MergeAtelier x = Start.withItems(12);
            for (int item = 0; item < 12; item++) {
                x.set(0, item, value);
            }
            due(12L * value, "sum of twelve times " + value, () -> x.sum(12));
            due(11L * value, "sum of eleven times " + value, () -> x.sum(11));
        }
        MergeAtelier full = Start.full();
        for (int commit = 0; commit < 100; commit++) {
            int number = commit;
            due((long) commit, "sum(" + commit + ")", () -> full.sum(number));
        }
    }

    private static void shares() {
        for (int items = 1; items <= 12; items++) {
            for (int conflicts = 0; conflicts <= items; conflicts++) {
                MergeAtelier x = Start.withItems(items);
                x.addBranch(0);
                x.set(0, 0, 1);
                for (int item = 0; item < conflicts; item++) {
                    x.set(0, item, 1);
                    x.set(1, item, 2);
                }
                if (conflicts > 0) {
                    x.merge(0, 1);
                }
                due((float) conflicts / (float) items, conflicts + " of " + items, () -> x.conflictShare(x.head(0)));
            }
        }
        due(0f, "conflictShare(0)", () -> Start.packed().conflictShare(0));
    }
}

/** Each sentence in the document's introduction and terms that names a boundary case, with a test of its own. */
public final class BoundaryTermsTest {
    private static final String NO_INDEX = NoChange.NO_INDEX;
    private static final String NO_ARGUMENT = NoChange.NO_ARGUMENT;
    private static final String NO_STATE = NoChange.NO_STATE;
    private static final String NO_ELEMENT = NoChange.NO_ELEMENT;
    private static final String NO_OPERATION = NoChange.NO_OPERATION;
    private static final int NOTHING = -1000;

    private BoundaryTermsTest() {
    }

    public static void main(String[] args) {
        introduction();
        itemsAndSides();
        commitsAndBranches();
        changes();
        merges();
        quotes();
        quotesInMerges();
        picks();
        blame();
        exceptions();
        Due.end("BoundaryTermsTest");
    }

    private static void due(Object want, String what, Due.Call call) {
        Sentence.due(want, what, call);
    }

    private static void sidesDue(MergeAtelier x, int commit, int item, int... want) {
        Sentence.sidesDue(x, commit, item, want);
    }

    // What it is.

    private static void introduction() {
        Sentence.holds("What it is", "An object is used for at most 512 calls after it has been made",
                BoundaryTermsTest::callsUpToTheLast);
    }

    private static void callsUpToTheLast() {
        due(90, "set as the 512th call", () -> usedFor511Calls().set(0, 0, 7));
        due(-999, "sideByLog as the 512th call", () -> usedFor511Calls().sideByLog(89, 0, 0));
        due(-999, "sideAt as the 512th call", () -> usedFor511Calls().sideAt(89, 0, 0));
        due(1, "addItem as the 512th call", () -> usedFor511Calls().addItem('s'));
        due(NO_INDEX, "kindOf(1) as the 512th call", () -> usedFor511Calls().kindOf(1));
    }

    /** One item, 89 changes of it, the last one to -999, and 421 calls that only ask or are refused. */
    private static MergeAtelier usedFor511Calls() {
        MergeAtelier x = Start.withItems(1);
        for (int change = 1; change < 90; change++) {
            x.set(0, 0, change == 89 ? -999 : change);
        }
        for (int call = 0; call < 421; call++) {
            int number = call;
            Due.ask(() -> number % 2 == 0 ? x.sideByLog(89, 0, 0) : x.set(0, 0, 1000 + number));
        }
        return x;
    }

    // Items and sides.

    private static void itemsAndSides() {
        String where = "Items and sides";
        Sentence.holds(where, "There are at most 12 items with the numbers 0 to n - 1 in the order in which they"
                + " were told",
                BoundaryTermsTest::twelveItems);
        Sentence.holds(where, "an item is a text, 't', a cell, 'c', or a shape, 's'",
                BoundaryTermsTest::threeKinds);
        Sentence.holds(where, "A side is a value from -999 to 999, or nothing",
                BoundaryTermsTest::allSides);
        Sentence.holds(where, "sides are ordered, nothing first, then values by rising numbers",
                BoundaryTermsTest::sidesInOrder);
        Sentence.holds(where, "In a commit, an item holds one or more different sides; several of them are a conflict",
                BoundaryTermsTest::oneOrMoreSides);
    }

    private static void twelveItems() {
        MergeAtelier x = new MergeAtelier();
        String kinds = "tcsstctttcss";
        for (int i = 0; i < 12; i++) {
            int item = i;
            due(NO_INDEX, "kindOf(" + i + ") before it is told", () -> x.kindOf(item));
            due(i, "addItem of the item " + i, () -> x.addItem(kinds.charAt(item)));
        }
        due(NO_STATE, "addItem of a 13th item", () -> x.addItem('t'));
        for (int i = 0; i < 12; i++) {
            int item = i;
            due(kinds.charAt(i), "kindOf(" + i + ")", () -> x.kindOf(item));
            due(i + 1, "set of the item " + i, () -> x.set(0, item, 10 * item));
        }
        due(NO_INDEX, "kindOf(12)", () -> x.kindOf(12));
        due(NO_INDEX, "kindOf(-1)", () -> x.kindOf(-1));
        for (int item = 0; item < 12; item++) {
            sidesDue(x, 12, item, 10 * item);
        }
    }

    private static void threeKinds() {
        MergeAtelier x = new MergeAtelier();
        for (int number = 0; number <= Character.MAX_VALUE; number++) {
            // A refused call counts among the 512 of an object, too.
            x = number % 400 == 0 ? new MergeAtelier() : x;
            MergeAtelier used = x;
            char kind = (char) number;
            boolean known = kind == 't' || kind == 'c' || kind == 's';
            due(known ? (Object) ("cst".indexOf(kind)) : NO_ARGUMENT, "addItem((char) " + number + ")",
                    () -> used.addItem(kind));
        }
    }

    private static void allSides() {
        MergeAtelier x = null;
        for (int i = 0; i < 1999; i++) {
            int value = 999 - i;
            int commit = 1 + i % 99;
            x = commit == 1 ? Start.withItems(2) : x;
            MergeAtelier used = x;
            due(commit, "set to " + value, () -> used.set(0, 0, value));
            due(value, "sideAt of " + value, () -> used.sideAt(commit, 0, 0));
            due(NOTHING, "sideAt of nothing", () -> used.sideAt(commit, 1, 0));
        }
        Sentence.refused(NO_ARGUMENT, "set to 1000", Start::withConflict, y -> y.set(0, 0, 1000));
        Sentence.refused(NO_ARGUMENT, "set to -1000, which is not nothing", Start::withConflict,
                y -> y.set(0, 0, NOTHING));
        MergeAtelier both = Start.holding(-999, NOTHING);
        sidesDue(both, both.head(0), 0, NOTHING, -999);
    }

    private static void sidesInOrder() {
        int[] rising = {NOTHING, -999, -1, 0, 1, 999};
        int[] told = new int[rising.length];
        for (int order = 0; order < 720; order++) {
            orderedBy(order, rising, told);
            MergeAtelier x = Start.holding(told);
            sidesDue(x, x.head(0), 0, rising);
        }
    }

    /** Puts the sides into one of the 720 orders of six. */
    private static void orderedBy(int order, int[] sides, int[] result) {
        int left = order;
        for (int i = 0; i < sides.length; i++) {
            int place = left % (i + 1);
            left = left / (i + 1);
            System.arraycopy(result, place, result, place + 1, i - place);
            result[place] = sides[i];
        }
    }

    private static void oneOrMoreSides() {
        MergeAtelier one = Start.withItems(1);
        one.addBranch(0);
        due(1, "sides of nothing", () -> one.sides(0, 0));
        due(0, "conflicts of nothing", () -> one.conflicts(0));
        one.set(0, 0, 5);
        one.set(1, 0, 5);
        one.merge(0, 1);
        sidesDue(one, 3, 0, 5);
        due(0, "conflicts of a value that both branches tell", () -> one.conflicts(3));
        MergeAtelier two = Start.holding(5, 6);
        sidesDue(two, two.head(0), 0, 5, 6);
        due(1, "conflicts of two sides", () -> two.conflicts(two.head(0)));
        MergeAtelier again = Start.holding(5, 6, 5, 6);
        sidesDue(again, again.head(0), 0, 5, 6);
        int[] all = new int[49];
        for (int side = 0; side < all.length; side++) {
            all[side] = 20 * side - 480;
        }
        MergeAtelier many = Start.holding(all);
        due(98, "head of 49 sides", () -> many.head(0));
        sidesDue(many, 98, 0, all);
        due(1, "conflicts of 49 sides", () -> many.conflicts(98));
    }

    // Commits and branches.

    private static void commitsAndBranches() {
        String where = "Commits and branches";
        Sentence.holds(where, "At most 100 commits have the numbers 0 to n - 1 in the order in which they were made",
                BoundaryTermsTest::hundredCommits);
        Sentence.holds(where, "The commit 0 is there from the beginning; in it, each item holds nothing,"
                + " also one that is told later", BoundaryTermsTest::nothingInCommit0);
        Sentence.holds(where, "Each other commit has one parent, or a first and a second one",
                BoundaryTermsTest::oneOrTwoParents);
        Sentence.holds(where, "The ancestors of a commit are the commit itself, its parents, and the ancestors of"
                + " these",
                BoundaryTermsTest::ancestors);
        Sentence.holds(where, "At most 5 branches have the numbers 0 to n - 1", BoundaryTermsTest::fiveBranches);
        Sentence.holds(where, "the branch 0 is there from the beginning, with the head 0",
                BoundaryTermsTest::branchFromTheBeginning);
        Sentence.holds(where, "There are the tags 0 to 9, each of which can keep a commit",
                BoundaryTermsTest::tenTags);
    }

    /** Ways to make a commit of Start.almostFull(). */
    private static final String[] WAYS = {"set", "clear", "settle", "merge", "pick"};

    private static int makeBy(MergeAtelier x, int way) {
        switch (way) {
            case 0: return x.set(0, 0, 3);
            case 1: return x.clear(0, 2);
            case 2: return x.settle(0, 1, 0);
            case 3: return x.merge(0, 1);
            default: return x.pick(0, 7);
        }
    }

    /** The ways once more, so chosen that each one would be right behind each of the ways above. */
    private static int makeOneMoreBy(MergeAtelier x, int way) {
        switch (way) {
            case 0: return x.set(1, 0, 4);
            case 1: return x.clear(0, 0);
            case 2: return x.settle(0, 3, 1);
            case 3: return x.merge(1, 0);
            default: return x.pick(1, 98);
        }
    }

    private static void hundredCommits() {
        MergeAtelier x = Start.withItems(1);
        for (int commit = 1; commit < 100; commit++) {
            int number = commit;
            due(number, "commits() before the commit " + number, () -> x.commits());
            due(NO_INDEX, "sides in the commit " + number + " before it is made", () -> x.sides(number, 0));
            due(number, "set that makes the commit " + number, () -> x.set(0, 0, number));
        }
        due(NO_STATE, "set that makes a commit 100", () -> x.set(0, 0, 100));
        due(100, "commits()", () -> x.commits());
        for (int last = 0; last < WAYS.length; last++) {
            MergeAtelier y = Start.almostFull();
            int lastWay = last;
            due(99, "commits() of 99", () -> y.commits());
            due(99, WAYS[last] + " that makes the commit 99", () -> makeBy(y, lastWay));
            for (int way = 0; way < WAYS.length; way++) {
                int number = way;
                due(NO_STATE, WAYS[way] + " that makes a commit 100", () -> makeOneMoreBy(y, number));
            }
            due(100, "commits()", () -> y.commits());
        }
        for (int way = 0; way < WAYS.length; way++) {
            int number = way;
            due(99, WAYS[way] + " with room", () -> makeOneMoreBy(Start.almostFull(), number));
        }
    }

    private static void nothingInCommit0() {
        MergeAtelier x = new MergeAtelier();
        due(1, "commits() of a new object", () -> x.commits());
        x.addItem('t');
        sidesDue(x, 0, 0, NOTHING);
        x.set(0, 0, 4);
        x.addItem('c');
        sidesDue(x, 0, 0, NOTHING);
        sidesDue(x, 0, 1, NOTHING);
        for (int late = 1; late < 12; late++) {
            MergeAtelier full = Start.full();
            for (int item = 1; item <= late; item++) {
                full.addItem('s');
            }
            sidesDue(full, 0, late, NOTHING);
            sidesDue(full, 1, late, NOTHING);
            sidesDue(full, 99, late, NOTHING);
            int number = late;
            due(0, "blame of an item told later", () -> full.blame(99, number));
        }
    }

    private static void oneOrTwoParents() {
        MergeAtelier x = Start.withConflict();
        due(0, "parents(0)", () -> x.parents(0));
        due(NO_ELEMENT, "parentAt(0, 0)", () -> x.parentAt(0, 0));
        x.settle(0, 1, 0);
        x.clear(0, 0);
        x.pick(0, 2);
        for (int commit : new int[] {1, 2, 3, 5, 6, 7}) {
            due(1, "parents(" + commit + ")", () -> x.parents(commit));
            due(NO_ELEMENT, "parentAt(" + commit + ", 1)", () -> x.parentAt(commit, 1));
        }
        due(2, "parents(4)", () -> x.parents(4));
        due(2, "the first parent", () -> x.parentAt(4, 0));
        due(3, "the second parent", () -> x.parentAt(4, 1));
        due(NO_ELEMENT, "a third parent", () -> x.parentAt(4, 2));
    }

    private static void ancestors() {
        MergeAtelier x = Start.packed();
        for (int commit = 0; commit < 100; commit++) {
            int number = commit;
            due(true, commit + " is an ancestor of itself", () -> x.isAncestor(number, number));
            due(true, "0 is an ancestor of " + commit, () -> x.isAncestor(0, number));
            due(commit == 0, commit + " is no ancestor of 0", () -> x.isAncestor(number, 0));
        }
        MergeAtelier line = Start.full();
        for (int commit = 0; commit < 100; commit++) {
            int number = commit;
            due(true, commit + " is an ancestor of 99", () -> line.isAncestor(number, 99));
            due(commit == 99, "99 is an ancestor of " + commit, () -> line.isAncestor(99, number));
        }
        MergeAtelier merged = Start.withConflict();
        due(true, "the first parent", () -> merged.isAncestor(2, 4));
        due(true, "the second parent", () -> merged.isAncestor(3, 4));
        due(true, "a parent of both parents", () -> merged.isAncestor(1, 4));
        due(false, "a commit beside it", () -> merged.isAncestor(2, 3));
    }

    private static void fiveBranches() {
        MergeAtelier x = Start.withItems(1);
        x.set(0, 0, 1);
        for (int branch = 1; branch < 5; branch++) {
            int number = branch;
            due(NO_INDEX, "head(" + branch + ") before it is added", () -> x.head(number));
            due(branch, "addBranch of the branch " + branch, () -> x.addBranch(number % 2));
            due(branch % 2, "head(" + branch + ")", () -> x.head(number));
        }
        due(NO_STATE, "addBranch of a 6th branch", () -> x.addBranch(0));
        due(NO_INDEX, "head(5)", () -> x.head(5));
        due(NO_INDEX, "head(-1)", () -> x.head(-1));
        due(2, "set in the branch 4", () -> x.set(4, 0, 2));
        due(2, "head(4)", () -> x.head(4));
        due(0, "parentAt(2, 0)", () -> x.parentAt(2, 0));
        due(1, "head(3)", () -> x.head(3));
    }

    private static void branchFromTheBeginning() {
        MergeAtelier x = new MergeAtelier();
        due(0, "head(0) of a new object", () -> x.head(0));
        due(NO_INDEX, "head(1) of a new object", () -> x.head(1));
        due(1, "addBranch beside the branch 0", () -> x.addBranch(0));
        x.addItem('t');
        due(1, "set in the branch 0", () -> x.set(0, 0, 1));
        due(0, "parentAt(1, 0)", () -> x.parentAt(1, 0));
    }

    private static void tenTags() {
        MergeAtelier x = Start.full();
        for (int tag = 0; tag < 10; tag++) {
            int number = tag;
            due(NO_ELEMENT, "tagged(" + tag + ")", () -> x.tagged(number));
            due(-1, "tag(" + tag + ")", () -> x.tag(number, 11 * number));
        }
        for (int tag = 0; tag < 10; tag++) {
            int number = tag;
            due(11 * tag, "tagged(" + tag + ")", () -> x.tagged(number));
        }
        for (int tag : new int[] {-1, 10}) {
            due(NO_ARGUMENT, "tag(" + tag + ")", () -> x.tag(tag, 0));
            due(NO_ARGUMENT, "tagged(" + tag + ")", () -> x.tagged(tag));
        }
    }

    // Changes.

    private static void changes() {
        String where = "Changes";
        Sentence.holds(where, "A change of an item in a branch makes a commit, whose parent is the head,"
                + " and which is the head then", BoundaryTermsTest::changeMakesCommit);
        Sentence.holds(where, "in it, the item holds the one side that is told, and all other items hold"
                + " what they do in the parent", BoundaryTermsTest::changeOfOneItem);
    }

    private static void changeMakesCommit() {
        MergeAtelier x = Start.withItems(1);
        x.addBranch(0);
        due(1, "set to 5", () -> x.set(0, 0, 5));
        due(2, "set to 5, which it holds", () -> x.set(0, 0, 5));
        due(1, "parentAt(2, 0)", () -> x.parentAt(2, 0));
        due(2, "head(0)", () -> x.head(0));
        due(0, "head(1)", () -> x.head(1));
        due(3, "set in a branch whose head is an older commit", () -> x.set(1, 0, 5));
        due(0, "parentAt(3, 0)", () -> x.parentAt(3, 0));
    }

    private static void changeOfOneItem() {
        for (int changed = 0; changed < 12; changed++) {
            MergeAtelier x = Start.withAllInConflict();
            int head = x.head(0);
            x.set(0, changed, 999);
            for (int item = 0; item < 12; item++) {
                if (item == changed) {
                    sidesDue(x, head + 1, item, 999);
                } else {
                    sidesDue(x, head + 1, item, item - 50, item);
                }
            }
        }
    }

    // Merges.

    private static void merges() {
        String where = "Merges";
        Sentence.holds(where, "The base of two commits is the one with the greatest number among those that are"
                + " ancestors of both", BoundaryTermsTest::greatestBase);
        Sentence.holds(where, "if it holds the same sides in both, these", BoundaryTermsTest::sameInBoth);
        Sentence.holds(where, "otherwise, if it holds in one of both what it holds in the base, what it holds in the"
                + " other one", BoundaryTermsTest::changedInOne);
        Sentence.holds(where, "otherwise, all sides that it holds in the one together with all that it holds in the"
                + " other", BoundaryTermsTest::changedInBoth);
    }

    private static void greatestBase() {
        MergeAtelier line = Start.full();
        for (int commit = 0; commit < 100; commit++) {
            int number = commit;
            due(commit, "base of " + commit + " and itself", () -> line.base(number, number));
            due(commit, "base of " + commit + " and 99", () -> line.base(number, 99));
            due(commit, "base of 99 and " + commit, () -> line.base(99, number));
            due(0, "base of " + commit + " and 0", () -> line.base(number, 0));
        }
        MergeAtelier crosswise = Start.withConflict();
        crosswise.merge(1, 0);
        crosswise.addBranch(2);
        crosswise.merge(2, 1);
        crosswise.addBranch(3);
        crosswise.addBranch(2);
        crosswise.merge(3, 4);
        crosswise.merge(4, 3);
        due(3, "base of two whose ancestors are 1, 2 and 3 together", () -> crosswise.base(4, 7));
        due(7, "base of 7 and 8", () -> crosswise.base(7, 8));
        MergeAtelier apart = Start.withItems(1);
        apart.addBranch(0);
        apart.set(0, 0, 1);
        apart.set(1, 0, 1);
        due(0, "base of two with the commit 0 alone together", () -> apart.base(1, 2));
    }

    private static void sameInBoth() {
        MergeAtelier x = Start.withItems(2);
        x.set(0, 0, 1);
        x.addBranch(1);
        x.set(0, 0, 2);
        x.set(1, 0, 2);
        x.merge(0, 1);
        sidesDue(x, 4, 0, 2);
        sidesDue(x, 4, 1, NOTHING);
        MergeAtelier cleared = Start.withItems(1);
        cleared.set(0, 0, 1);
        cleared.addBranch(1);
        cleared.clear(0, 0);
        cleared.clear(1, 0);
        cleared.merge(0, 1);
        sidesDue(cleared, 4, 0, NOTHING);
        MergeAtelier open = Start.withConflict();
        open.merge(1, 0);
        open.set(0, 0, 1);
        open.set(1, 2, 1);
        open.merge(0, 1);
        sidesDue(open, 8, 1, -4, 7);
    }

    private static void changedInOne() {
        for (int branch = 0; branch < 2; branch++) {
            MergeAtelier x = Start.withItems(4);
            x.set(0, 0, 1);
            x.set(0, 1, 1);
            x.addBranch(2);
            x.set(1 - branch, 3, 1);
            x.set(branch, 0, 2);
            x.clear(branch, 1);
            x.set(branch, 2, -999);
            x.merge(0, 1);
            sidesDue(x, 7, 0, 2);
            sidesDue(x, 7, 1, NOTHING);
            sidesDue(x, 7, 2, -999);
            sidesDue(x, 7, 3, 1);
        }
        MergeAtelier behind = Start.withConflict();
        behind.addBranch(1);
        due(5, "merge into a branch that was not changed since", () -> behind.merge(2, 0));
        sidesDue(behind, 5, 1, -4, 7);
        behind.settle(0, 1, 1);
        behind.merge(2, 0);
        sidesDue(behind, 7, 1, 7);
        behind.set(2, 1, 7);
        behind.set(0, 1, -4);
        behind.merge(2, 0);
        // In the first one it holds what it does in the base, though it was told once more since.
        sidesDue(behind, 10, 1, -4);
    }

    private static void changedInBoth() {
        for (int branch = 0; branch < 2; branch++) {
            MergeAtelier x = Start.withItems(3);
            x.set(0, 0, 1);
            x.addBranch(1);
            x.clear(branch, 0);
            x.set(1 - branch, 0, 999);
            x.set(0, 1, 2);
            x.set(1, 1, -2);
            x.merge(branch, 1 - branch);
            sidesDue(x, 6, 0, NOTHING, 999);
            sidesDue(x, 6, 1, -2, 2);
            sidesDue(x, 6, 2, NOTHING);
        }
        // The sides 5 and 6 in the one, 6 and 7 in the other one: 6 is held once.
        MergeAtelier wide = Start.withItems(1);
        wide.set(0, 0, 1);
        for (int value = 5; value < 8; value++) {
            wide.addBranch(1);
            wide.set(value - 4, 0, value);
        }
        wide.addBranch(3);
        wide.merge(1, 2);
        wide.merge(3, 4);
        wide.merge(1, 3);
        sidesDue(wide, 7, 0, 5, 6, 7);
    }

    // Quotes.

    private static void quotes() {
        String where = "Quotes";
        Sentence.holds(where, "At most 10 quotes have the numbers 0 to n - 1", BoundaryTermsTest::tenQuotes);
        Sentence.holds(where, "a quote is broken if each of both items holds one side, and these are values with"
                + " another difference", BoundaryTermsTest::anotherDifference);
        Sentence.holds(where, "or a value and nothing", BoundaryTermsTest::valueAndNothing);
        Sentence.holds(where, "it is open if one of both items holds a conflict", BoundaryTermsTest::openQuotes);
    }

    private static void tenQuotes() {
        MergeAtelier x = Start.withItems(12);
        due(0, "broken(0) without quotes", () -> x.broken(0));
        x.set(0, 11, 5);
        for (int i = 0; i < 10; i++) {
            int quote = i;
            due(NO_INDEX, "isBroken(" + i + ", 1) before it is told", () -> x.isBroken(quote, 1));
            due(i, "quote of the quote " + i, () -> x.quote(quote, quote + 2, quote));
        }
        due(NO_STATE, "quote of an 11th quote", () -> x.quote(0, 11, 0));
        due(NO_INDEX, "isBroken(10, 1)", () -> x.isBroken(10, 1));
        due(NO_INDEX, "isBroken(-1, 1)", () -> x.isBroken(-1, 1));
        for (int i = 0; i < 10; i++) {
            int quote = i;
            due(i == 9, "isBroken(" + i + ", 1)", () -> x.isBroken(quote, 1));
        }
        due(1, "broken(1)", () -> x.broken(1));
    }

    private static void anotherDifference() {
        int[][] cases = {
            {0, 0, 0}, {1, 0, 1}, {99, 0, 99}, {-99, 0, -99}, {999, 900, 99}, {-999, -900, -99}, {5, -5, 10},
            {999, 999, 0}, {-999, -999, 0}, {49, -50, 99}
        };
        for (int[] c : cases) {
            due(false, c[0] + " by " + c[1] + " plus " + c[2], () -> brokenBy(c[0], c[1], c[2]));
            due(c[2] != 0, c[1] + " by " + c[0] + " plus " + c[2], () -> brokenBy(c[1], c[0], c[2]));
            int next = c[1] < 0 ? c[1] + 1 : c[1] - 1;
            due(true, c[0] + " by " + next + " plus " + c[2], () -> brokenBy(c[0], next, c[2]));
        }
        due(true, "999 by -999 plus 99", () -> brokenBy(999, -999, 99));
        due(true, "-999 by 999 plus -99", () -> brokenBy(-999, 999, -99));
        due(true, "999 by -999 plus 0", () -> brokenBy(999, -999, 0));
    }

    /** Whether a quote of two items is broken that hold these sides. */
    private static boolean brokenBy(int side, int other, int shift) {
        MergeAtelier x = Start.withItems(2);
        x.set(0, 0, 1);
        x.set(0, 1, 1);
        change(x, 0, 0, side);
        change(x, 0, 1, other);
        x.quote(0, 1, shift);
        return x.isBroken(0, 4);
    }

    private static void change(MergeAtelier x, int branch, int item, int side) {
        if (side == NOTHING) {
            x.clear(branch, item);
        } else {
            x.set(branch, item, side);
        }
    }

    private static void valueAndNothing() {
        for (int shift : new int[] {-99, -1, 0, 1, 99}) {
            for (int value : new int[] {-999, -901, -99, -1, 0, 1, 99, 999}) {
                due(true, value + " by nothing plus " + shift, () -> brokenBy(value, NOTHING, shift));
                due(true, "nothing by " + value + " plus " + shift, () -> brokenBy(NOTHING, value, shift));
            }
            due(false, "nothing by nothing plus " + shift, () -> brokenBy(NOTHING, NOTHING, shift));
        }
    }

    private static void openQuotes() {
        MergeAtelier x = Start.withConflict();
        x.quote(1, 0, 99);
        x.quote(0, 1, 99);
        x.quote(1, 2, 99);
        x.quote(2, 1, 99);
        for (int quote = 0; quote < 4; quote++) {
            int number = quote;
            due(true, "isBroken(" + quote + ", 3)", () -> x.isBroken(number, 3));
            due(false, "isBroken of a quote with a conflict", () -> x.isBroken(number, 4));
        }
        due(0, "broken of open quotes", () -> x.broken(4));
        MergeAtelier both = Start.withAllInConflict();
        both.quote(0, 1, 1);
        due(false, "isBroken of two conflicts", () -> both.isBroken(0, both.head(0)));
        MergeAtelier half = Start.withHalfConflict();
        half.quote(0, 1, 0);
        half.quote(1, 0, 0);
        due(0, "broken by a conflict of nothing and a value", () -> half.broken(4));
    }

    private static void quotesInMerges() {
        String where = "Quotes";
        Sentence.holds(where, "the quotes that there are then are looked at", BoundaryTermsTest::quotesThereAreThen);
        Sentence.holds(where, "by rising numbers", BoundaryTermsTest::quotesByRisingNumbers);
        Sentence.holds(where, "for each one that is neither broken nor open in the first commit",
                () -> letAloneFor(0));
        Sentence.holds(where, "is neither broken nor open in the second commit", () -> letAloneFor(1));
        Sentence.holds(where, "and is broken by what the merge tells so far", BoundaryTermsTest::brokenSoFar);
        Sentence.holds(where, "each of both items holds all sides that it holds in the first commit together with all"
                + " that it holds in the second one", BoundaryTermsTest::allSidesOfBothItems);
    }

    private static void quotesThereAreThen() {
        MergeAtelier none = Start.crossed();
        none.merge(0, 1);
        sidesDue(none, 5, 0, 2);
        sidesDue(none, 5, 1, 1);
        none.quote(0, 1, 0);
        sidesDue(none, 5, 0, 2);
        sidesDue(none, 5, 1, 1);
        none.merge(1, 0);
        // The base of the commits 4 and 5 is the commit 4, where the quote is whole; in the commit 5 it is broken.
        sidesDue(none, 6, 0, 2);
        MergeAtelier last = Start.crossed();
        for (int quote = 0; quote < 9; quote++) {
            last.quote(2, 3, 0);
        }
        due(0, "wouldConflict before the tenth quote", () -> last.wouldConflict(0, 1));
        last.quote(0, 1, 0);
        due(2, "wouldConflict with the tenth quote", () -> last.wouldConflict(0, 1));
        last.merge(0, 1);
        sidesDue(last, 5, 0, 1, 2);
        sidesDue(last, 5, 1, 1, 2);
    }

    /** Of two quotes of the item 1, the one with the lower number takes it, and the other one is left open. */
    private static void quotesByRisingNumbers() {
        for (int taken = 0; taken <= 2; taken += 2) {
            MergeAtelier x = Start.withItems(3);
            x.set(0, 0, 1);
            x.set(0, 1, 2);
            x.set(0, 2, 1);
            x.addBranch(3);
            x.quote(taken, 1, 0);
            x.quote(2 - taken, 1, 0);
            x.set(0, 0, 2);
            x.set(0, 2, 2);
            x.set(1, 1, 1);
            x.merge(0, 1);
            sidesDue(x, 7, taken, 1, 2);
            sidesDue(x, 7, 1, 1, 2);
            sidesDue(x, 7, 2 - taken, 2);
        }
    }

    /** A quote that is broken, or open, in one of both commits alone, and broken by what the merge tells. */
    private static void letAloneFor(int branch) {
        MergeAtelier broken = Start.withItems(3);
        broken.set(0, 0, 1);
        broken.set(0, 1, 1);
        broken.addBranch(2);
        broken.quote(0, 1, 0);
        broken.set(branch, 1, 3);
        broken.set(1 - branch, 2, 8);
        broken.merge(0, 1);
        due(true, "broken in one of both, and in the merge", () -> broken.isBroken(0, 5));
        sidesDue(broken, 5, 0, 1);
        sidesDue(broken, 5, 1, 3);
        // The item 0 is open in one head and settled in the other one to what breaks the quote.
        MergeAtelier open = Start.withItems(2);
        open.set(0, 1, 7);
        open.addBranch(1);
        open.set(0, 0, 1);
        open.set(1, 0, 7);
        open.merge(0, 1);
        open.merge(1, 0);
        open.quote(0, 1, 0);
        open.set(1 - branch, 0, 7);
        open.set(branch, 1, 9);
        open.merge(0, 1);
        due(true, "open in one of both, and broken in the merge", () -> open.isBroken(0, 8));
        sidesDue(open, 8, 0, 7);
        sidesDue(open, 8, 1, 9);
    }

    private static void brokenSoFar() {
        MergeAtelier whole = Start.crossed();
        whole.quote(0, 1, 0);
        whole.set(1, 0, 2);
        whole.set(1, 1, 2);
        whole.set(1, 3, 4);
        // Whole in both, and in what the merge tells: 2 and 2.
        whole.merge(0, 1);
        sidesDue(whole, 8, 0, 2);
        sidesDue(whole, 8, 1, 2);
        // The item 0 is changed in both, so that the quote is open in what the merge tells: it is let alone.
        MergeAtelier open = Start.withItems(2);
        open.set(0, 0, 1);
        open.set(0, 1, 2);
        open.addBranch(2);
        open.quote(0, 1, 0);
        open.set(0, 0, 2);
        open.set(1, 0, 3);
        open.set(1, 1, 3);
        open.merge(0, 1);
        sidesDue(open, 6, 0, 2, 3);
        sidesDue(open, 6, 1, 3);
    }

    private static void allSidesOfBothItems() {
        for (int branch = 0; branch < 2; branch++) {
            MergeAtelier x = Start.crossed();
            x.quote(0, 1, 0);
            x.merge(branch, 1 - branch);
            sidesDue(x, 5, 0, 1, 2);
            sidesDue(x, 5, 1, 1, 2);
            sidesDue(x, 5, 2, NOTHING);
            sidesDue(x, 5, 3, NOTHING);
        }
        MergeAtelier nothing = Start.withItems(2);
        nothing.set(0, 0, 5);
        nothing.addBranch(1);
        nothing.quote(0, 1, 99);
        nothing.clear(0, 0);
        nothing.set(1, 1, -94);
        nothing.merge(0, 1);
        sidesDue(nothing, 4, 0, NOTHING, 5);
        sidesDue(nothing, 4, 1, NOTHING, -94);
    }

    // Picks.

    private static void picks() {
        String where = "Picks";
        Sentence.holds(where, "A commit with one parent can be picked into a branch: this makes a commit, whose parent"
                + " is the head", BoundaryTermsTest::pickOfOneParent);
        Sentence.holds(where, "each item that holds something else in the picked commit than in the parent of that"
                + " holds what it does in the picked commit, if it holds in the head what it does in that parent",
                BoundaryTermsTest::pickedAsItIs);
        Sentence.holds(where, "and otherwise all sides that it holds in the head and in the picked commit",
                BoundaryTermsTest::pickedTogether);
        Sentence.holds(where, "all other items hold what they do in the head", BoundaryTermsTest::notPicked);
    }

    private static void pickOfOneParent() {
        Sentence.refused(NO_OPERATION, "pick of the commit 0", Start::withConflict, y -> y.pick(1, 0));
        Sentence.refused(NO_OPERATION, "pick of a merge", Start::withConflict, y -> y.pick(1, 4));
        MergeAtelier x = Start.withConflict();
        x.settle(0, 1, 0);
        x.clear(0, 0);
        due(7, "pick of a set", () -> x.pick(1, 2));
        due(8, "pick of a settle", () -> x.pick(1, 5));
        due(9, "pick of a clear", () -> x.pick(1, 6));
        due(10, "pick of a pick", () -> x.pick(1, 7));
        due(11, "pick of the head", () -> x.pick(1, 10));
        due(12, "pick of a child of the commit 0", () -> x.pick(1, 1));
        for (int commit = 7; commit < 13; commit++) {
            int number = commit;
            due(1, "parents(" + commit + ")", () -> x.parents(number));
            due(commit == 7 ? 3 : commit - 1, "parentAt(" + commit + ", 0)", () -> x.parentAt(number, 0));
        }
        due(12, "head(1)", () -> x.head(1));
        due(6, "head(0)", () -> x.head(0));
    }

    private static void pickedAsItIs() {
        MergeAtelier x = Start.withConflict();
        x.addBranch(1);
        x.pick(2, 2);
        sidesDue(x, 5, 1, 7);
        x.addBranch(0);
        x.pick(3, 1);
        sidesDue(x, 6, 0, 5);
        x.clear(0, 0);
        x.pick(2, 7);
        sidesDue(x, 8, 0, NOTHING);
        // The commit 9 brings a conflict into a branch that holds what its parent does.
        x.pick(1, 2);
        x.addBranch(3);
        x.pick(4, 9);
        sidesDue(x, 10, 1, -4, 7);
    }

    private static void pickedTogether() {
        MergeAtelier x = Start.withConflict();
        x.pick(1, 2);
        sidesDue(x, 5, 1, -4, 7);
        x.pick(1, 2);
        sidesDue(x, 6, 1, -4, 7);
        x.pick(0, 1);
        sidesDue(x, 7, 0, 5);
        x.clear(0, 0);
        x.set(1, 0, 6);
        x.pick(1, 8);
        sidesDue(x, 10, 0, NOTHING, 6);
        x.pick(0, 9);
        sidesDue(x, 11, 0, NOTHING, 6);
        x.addBranch(3);
        x.set(2, 1, 9);
        x.pick(2, 5);
        // The commit 5 holds -4 and 7, and its parent -4.
        sidesDue(x, 13, 1, -4, 7, 9);
    }

    private static void notPicked() {
        MergeAtelier x = Start.withAllInConflict();
        int head = x.head(0);
        x.addBranch(0);
        x.set(2, 0, 7);
        x.pick(0, head + 1);
        sidesDue(x, head + 2, 0, -50, 0, 7);
        for (int item = 1; item < 12; item++) {
            sidesDue(x, head + 2, item, item - 50, item);
        }
        x.set(2, 0, 7);
        x.pick(0, head + 3);
        // The commit told once more what its parent holds, so no item holds something else in it.
        sidesDue(x, head + 4, 0, -50, 0, 7);
        MergeAtelier tied = Start.crossed();
        tied.quote(0, 1, 0);
        tied.pick(0, 4);
        sidesDue(tied, 5, 0, 2);
        sidesDue(tied, 5, 1, 1);
    }

    // Blame.

    private static void blame() {
        String where = "Blame";
        Sentence.holds(where, "The blame of an item in a commit is the commit itself, if it has no parent",
                BoundaryTermsTest::blameOfCommit0);
        Sentence.holds(where, "or the item does not hold the same in any of its parents",
                BoundaryTermsTest::blameOfItself);
        Sentence.holds(where, "otherwise it is the blame in the first one of the parents in which it holds the same",
                BoundaryTermsTest::blameOfParent);
    }

    private static void blameOfCommit0() {
        MergeAtelier x = Start.packed();
        for (int item = 0; item < 12; item++) {
            int number = item;
            due(0, "blame(0, " + item + ")", () -> x.blame(0, number));
        }
        due(12, "blamed(0, 0)", () -> x.blamed(0, 0));
        for (int commit = 0; commit < 100; commit++) {
            int number = commit;
            due(0, "blame of what was never changed", () -> x.blame(number, 11));
        }
    }

    private static void blameOfItself() {
        MergeAtelier x = Start.withConflict();
        due(1, "blame of a change", () -> x.blame(1, 0));
        due(4, "blame of a new conflict", () -> x.blame(4, 1));
        x.settle(0, 1, 0);
        due(5, "blame of what was settled", () -> x.blame(5, 1));
        x.clear(0, 0);
        due(6, "blame of what was cleared", () -> x.blame(6, 0));
        MergeAtelier line = Start.full();
        for (int commit = 0; commit < 100; commit++) {
            int number = commit;
            due(commit, "blame(" + commit + ", 0)", () -> line.blame(number, 0));
        }
    }

    private static void blameOfParent() {
        MergeAtelier line = Start.withItems(2);
        line.set(0, 0, 5);
        for (int commit = 2; commit < 100; commit++) {
            line.set(0, commit % 2, commit % 2 == 0 ? 5 : commit);
        }
        due(1, "blame through 98 parents", () -> line.blame(99, 0));
        MergeAtelier x = Start.withItems(4);
        x.addBranch(0);
        x.set(0, 0, 1);
        x.set(1, 0, 1);
        x.set(1, 1, 2);
        x.set(0, 2, 3);
        x.merge(0, 1);
        due(1, "blame of the same in both: the first one", () -> x.blame(5, 0));
        due(3, "blame of the same in the second one alone", () -> x.blame(5, 1));
        due(4, "blame of the same in the first one alone", () -> x.blame(5, 2));
        due(0, "blame of the same from the beginning", () -> x.blame(5, 3));
    }

    // Exceptions.

    private static void exceptions() {
        String where = "Exceptions";
        Sentence.holds(where, "A method that throws an exception changes nothing", BoundaryTermsTest::nothingIsUsedUp);
        Sentence.holds(where, "If several exceptions apply, the one that is listed first is thrown",
                BoundaryTermsTest::firstListed);
    }

    /** Many refused calls of each method that makes something, and the room for what it makes is all there. */
    private static void nothingIsUsedUp() {
        MergeAtelier x = new MergeAtelier();
        for (int call = 0; call < 20; call++) {
            due(NO_ARGUMENT, "addItem", () -> x.addItem('x'));
            due(NO_INDEX, "addBranch", () -> x.addBranch(1));
            due(NO_INDEX, "quote", () -> x.quote(0, 1, 0));
            due(NO_INDEX, "tag", () -> x.tag(0, 1));
        }
        MergeAtelier packed = Start.packInto(x);
        due(NoChange.numbersOf(Start.packed()), "what an object with refused calls before keeps",
                () -> NoChange.numbersOf(packed));
        allValuesAfter(NO_INDEX, (y, number) -> y.set(1, 0, -200 - number));
        allValuesAfter(NO_INDEX, (y, number) -> y.set(0, 1, -200 - number));
        allValuesAfter(NO_ARGUMENT, (y, number) -> y.set(0, 0, 1000 + number));
        allValuesAfter(NO_OPERATION, (y, number) -> y.settle(0, 0, number));
    }

    private interface Numbered {
        Object call(MergeAtelier x, int number);
    }

    /** 200 refused calls, and then 99 changes to values that are all different. */
    private static void allValuesAfter(String want, Numbered refused) {
        MergeAtelier x = Start.withItems(1);
        for (int call = 0; call < 200; call++) {
            int number = call;
            due(want, "refused call " + call, () -> refused.call(x, number));
        }
        for (int value = 1; value < 100; value++) {
            int commit = value;
            due(commit, "set after refused calls", () -> x.set(0, 0, commit));
            due(commit, "sideAt after refused calls", () -> x.sideAt(commit, 0, 0));
        }
        due(99, "sideByLog(99, 0, 0)", () -> x.sideByLog(99, 0, 0));
        due(NO_ELEMENT, "sideAt(99, 0, 1)", () -> x.sideAt(99, 0, 1));
    }

    private static void first(String want, String what, NoChange.Use call) {
        Sentence.refused(want, what, Start::packed, call);
    }

    private static void firstListed() {
        first(NO_ARGUMENT, "addItem: kind, room", x -> x.addItem('x'));
        first(NO_INDEX, "addBranch: commit, room", x -> x.addBranch(100));
        first(NO_INDEX, "set: branch, value, room", x -> x.set(5, 0, 1000));
        first(NO_INDEX, "set: item, value, room", x -> x.set(0, 12, 1000));
        first(NO_INDEX, "set: branch, item, value, room", x -> x.set(-1, -1, -1000));
        first(NO_INDEX, "set: branch, room", x -> x.set(5, 0, 5));
        first(NO_INDEX, "set: item, room", x -> x.set(0, 12, 5));
        first(NO_ARGUMENT, "set: value, room", x -> x.set(0, 0, 1000));
        first(NO_INDEX, "clear: branch, room", x -> x.clear(5, 0));
        first(NO_INDEX, "clear: item, room", x -> x.clear(0, 12));
        first(NO_OPERATION, "clear: nothing, room", x -> x.clear(0, 11));
        first(NO_INDEX, "settle: branch, side, room", x -> x.settle(5, 0, 2));
        first(NO_INDEX, "settle: item, side, room", x -> x.settle(0, 12, 2));
        first(NO_OPERATION, "settle: no conflict, side, room", x -> x.settle(0, 11, 1));
        first(NO_OPERATION, "settle: no conflict, index -1, room", x -> x.settle(0, 11, -1));
        first(NO_OPERATION, "settle: no conflict, room", x -> x.settle(0, 11, 0));
        first(NO_ELEMENT, "settle: side, room", x -> x.settle(0, 0, 2));
        first(NO_ELEMENT, "settle: index -1, room", x -> x.settle(0, 0, -1));
        first(NO_INDEX, "tag: commit, tag", x -> x.tag(10, 100));
        first(NO_INDEX, "parentAt: commit, parent", x -> x.parentAt(100, 2));
        first(NO_INDEX, "sideAt: commit, side", x -> x.sideAt(100, 0, -1));
        first(NO_INDEX, "sideAt: item, side", x -> x.sideAt(0, 12, -1));
        first(NO_INDEX, "sideByLog: commit, side", x -> x.sideByLog(100, 0, -1));
        first(NO_INDEX, "sideByLog: item, side", x -> x.sideByLog(0, 12, -1));
        first(NO_INDEX, "merge: both branches, room", x -> x.merge(5, 5));
        first(NO_INDEX, "merge: branch, room", x -> x.merge(5, 0));
        first(NO_INDEX, "merge: other, room", x -> x.merge(0, 5));
        first(NO_OPERATION, "merge: ancestor, room", x -> x.merge(0, 0));
        first(NO_INDEX, "pick: branch, parents, room", x -> x.pick(5, 0));
        first(NO_INDEX, "pick: branch, room", x -> x.pick(5, 1));
        first(NO_INDEX, "pick: commit, room", x -> x.pick(0, 100));
        first(NO_OPERATION, "pick: parents, room", x -> x.pick(0, 0));
        first(NO_INDEX, "quote: item, shift, room", x -> x.quote(12, 0, 100));
        first(NO_INDEX, "quote: other, shift, room", x -> x.quote(0, 12, 100));
        first(NO_INDEX, "quote: items, same, room", x -> x.quote(12, 12, 0));
        first(NO_ARGUMENT, "quote: same, room", x -> x.quote(1, 1, 0));
        first(NO_ARGUMENT, "quote: shift, room", x -> x.quote(0, 1, 100));
        Sentence.refused(NO_ARGUMENT, "tagged: tag, none kept", Start::empty, x -> x.tagged(10));
        Sentence.refused(NO_INDEX, "firstConflict: commit, none", Start::empty, x -> x.firstConflict(1));
        Sentence.refused(NO_INDEX, "conflictShare: commit, no items", Start::empty, x -> x.conflictShare(1));
        Sentence.refused(NO_INDEX, "quote: item, same", Start::empty, x -> x.quote(0, 0, 100));
        Sentence.refused(NO_INDEX, "merge: other, the same head", Start::empty, x -> x.merge(0, 1));
    }
}

/** Ordinary inputs, edges and wrong inputs for each promise of the document, by its number. */
public final class PromiseTest {
    private static final String NO_INDEX = NoChange.NO_INDEX;
    private static final String NO_ARGUMENT = NoChange.NO_ARGUMENT;
    private static final String NO_STATE = NoChange.NO_STATE;
    private static final String NO_ELEMENT = NoChange.NO_ELEMENT;
    private static final String NO_OPERATION = NoChange.NO_OPERATION;
    private static final int LEAST = Integer.MIN_VALUE;
    private static final int MOST = Integer.MAX_VALUE;

    private static String promise = "";

    private PromiseTest() {
    }

    public static void main(String[] args) {
        promise01NewObject();
        promise02AddItem();
        promise03KindOf();
        promise04AddBranch();
        promise05Head();
        promise06Set();
        promise07Clear();
        promise08Settle();
        promise09Tag();
        promise10Tagged();
        promise11Commits();
        promise12Parents();
        promise13ParentAt();
        promise14IsAncestor();
        promise15Base();
        promise16Sides();
        promise17SideAt();
        promise18SideByLog();
        promise19Conflicts();
        promise20FirstConflict();
        promise21Differences();
        promise22Blame();
        promise23Blamed();
        promise24Merge();
        promise24MergeByQuotes();
        promise25WouldConflict();
        promise26IsAlike();
        promise27Pick();
        promise28Quote();
        promise29IsBroken();
        promise30Broken();
        promise31Sum();
        promise32ConflictShare();
        Due.end("PromiseTest");
    }

    // What is due.

    private static void due(Object want, String what, Due.Call call) {
        Due.answer(promise + ": " + what, want, call);
    }

    private static void sidesDue(MergeAtelier x, int commit, int item, int... want) {
        due(want.length, "sides(" + commit + ", " + item + ")", () -> x.sides(commit, item));
        for (int i = 0; i < want.length; i++) {
            int index = i;
            String at = "(" + commit + ", " + item + ", " + i + ")";
            due(want[i], "sideAt" + at, () -> x.sideAt(commit, item, index));
            due(want[i], "sideByLog" + at, () -> x.sideByLog(commit, item, index));
        }
    }

    private static void refused(String want, String what, NoChange.Maker maker, NoChange.Use call) {
        NoChange.due(want, promise + ": " + what, maker, call);
    }

    /** A call with a commit as its argument refuses the numbers that no commit has. */
    private static void commitRefused(String what, java.util.function.BiFunction<MergeAtelier, Integer, Object> call) {
        for (int commit : new int[] {-1, 5, 100, LEAST, MOST}) {
            refused(NO_INDEX, what + " of the commit " + commit, Start::withConflict,
                    x -> call.apply(x, commit));
        }
    }

    private static void itemRefused(String what, java.util.function.BiFunction<MergeAtelier, Integer, Object> call) {
        for (int item : new int[] {-1, 3, 12, LEAST, MOST}) {
            refused(NO_INDEX, what + " of the item " + item, Start::withConflict,
                    x -> call.apply(x, item));
        }
    }

    private static void branchRefused(String what, java.util.function.BiFunction<MergeAtelier, Integer, Object> call) {
        for (int branch : new int[] {-1, 2, 5, LEAST, MOST}) {
            refused(NO_INDEX, what + " of the branch " + branch, Start::withConflict,
                    x -> call.apply(x, branch));
        }
    }

    // The promises.

    private static void promise01NewObject() {
        promise = "1";
        MergeAtelier x = new MergeAtelier();
        due(1, "commits()", () -> x.commits());
        due(0, "head(0)", () -> x.head(0));
        due(NO_INDEX, "head(1)", () -> x.head(1));
        due(NO_INDEX, "kindOf(0)", () -> x.kindOf(0));
        due(NO_INDEX, "sides(0, 0)", () -> x.sides(0, 0));
        due(0, "parents(0)", () -> x.parents(0));
        due(0, "broken(0)", () -> x.broken(0));
        due(NO_INDEX, "isBroken(0, 0)", () -> x.isBroken(0, 0));
        due(0L, "sum(0)", () -> x.sum(0));
        for (int tag = 0; tag < 10; tag++) {
            int number = tag;
            due(NO_ELEMENT, "tagged(" + tag + ")", () -> x.tagged(number));
        }
        MergeAtelier busy = Start.withConflict();
        MergeAtelier fresh = new MergeAtelier();
        due(5, "commits() of a busy object", () -> busy.commits());
        due(1, "commits() of a fresh object beside it", () -> fresh.commits());
    }

    private static void promise02AddItem() {
        promise = "2";
        MergeAtelier x = new MergeAtelier();
        for (int i = 0; i < 12; i++) {
            char kind = "sct".charAt(i % 3);
            due(i, "addItem " + i, () -> x.addItem(kind));
        }
        due(NO_STATE, "addItem of a 13th item", () -> x.addItem('t'));
        due(NO_ARGUMENT, "addItem of a wrong kind when full", () -> x.addItem('x'));
        due(NO_INDEX, "kindOf(12)", () -> x.kindOf(12));
        for (char kind : new char[] {'T', 'C', 'S', 'x', 'r', 'u', 'b', 'd', 0, ' ', 0x174, 0xffff}) {
            refused(NO_ARGUMENT, "addItem(" + (int) kind + ")", Start::withConflict,
                    y -> y.addItem(kind));
        }
        refused(NO_STATE, "addItem when full", () -> Start.withItems(12), y -> y.addItem('c'));
        MergeAtelier late = Start.withConflict();
        due(3, "addItem after commits", () -> late.addItem('c'));
        for (int commit = 0; commit < 5; commit++) {
            sidesDue(late, commit, 3, -1000);
        }
    }

    private static void promise03KindOf() {
        promise = "3";
        MergeAtelier x = Start.withItems(3);
        due('t', "kindOf(0)", () -> x.kindOf(0));
        due('c', "kindOf(1)", () -> x.kindOf(1));
        due('s', "kindOf(2)", () -> x.kindOf(2));
        itemRefused("kindOf", (y, item) -> y.kindOf(item));
    }

    private static void promise04AddBranch() {
        promise = "4";
        MergeAtelier x = Start.withItems(1);
        x.set(0, 0, 1);
        for (int branch = 1; branch < 5; branch++) {
            int commit = branch % 2;
            int number = branch;
            due(branch, "addBranch(" + commit + ")", () -> x.addBranch(commit));
            due(commit, "head(" + branch + ")", () -> x.head(number));
        }
        due(NO_STATE, "a 6th branch", () -> x.addBranch(0));
        due(NO_INDEX, "a 6th branch of no commit", () -> x.addBranch(2));
        due(NO_INDEX, "head(5)", () -> x.head(5));
        due(2, "commits()", () -> x.commits());
        commitRefused("addBranch", (y, commit) -> y.addBranch(commit));
    }

    private static void promise05Head() {
        promise = "5";
        MergeAtelier x = Start.withConflict();
        due(4, "head(0)", () -> x.head(0));
        due(3, "head(1)", () -> x.head(1));
        x.clear(1, 0);
        due(5, "head(1) after a change", () -> x.head(1));
        due(4, "head(0) after a change in the branch 1", () -> x.head(0));
        branchRefused("head", (y, branch) -> y.head(branch));
    }

    private static void promise06Set() {
        promise = "6";
        MergeAtelier x = Start.withItems(2);
        due(1, "set(0, 0, 999)", () -> x.set(0, 0, 999));
        due(2, "set(0, 1, -999)", () -> x.set(0, 1, -999));
        due(3, "set(0, 1, -999) again", () -> x.set(0, 1, -999));
        due(4, "set(0, 0, 0)", () -> x.set(0, 0, 0));
        sidesDue(x, 1, 0, 999);
        sidesDue(x, 1, 1, -1000);
        sidesDue(x, 2, 0, 999);
        sidesDue(x, 3, 1, -999);
        sidesDue(x, 4, 0, 0);
        sidesDue(x, 4, 1, -999);
        due(1, "parents(4)", () -> x.parents(4));
        due(3, "parentAt(4, 0)", () -> x.parentAt(4, 0));
        due(4, "head(0)", () -> x.head(0));
        x.addBranch(1);
        due(5, "set(1, 1, 8)", () -> x.set(1, 1, 8));
        due(1, "parentAt(5, 0)", () -> x.parentAt(5, 0));
        due(4, "head(0) after a change in the branch 1", () -> x.head(0));
        sidesDue(x, 5, 0, 999);
        MergeAtelier open = Start.withConflict();
        due(5, "set of an item that holds a conflict", () -> open.set(0, 1, 3));
        sidesDue(open, 5, 1, 3);
        lateValuesStay();
        branchRefused("set", (y, branch) -> y.set(branch, 0, 1000));
        itemRefused("set", (y, item) -> y.set(0, item, 1000));
        for (int value : new int[] {1000, -1000, -1001, LEAST, MOST}) {
            refused(NO_ARGUMENT, "set(0, 0, " + value + ")", Start::withConflict,
                    y -> y.set(0, 0, value));
        }
        refused(NO_STATE, "set of a 101st commit", Start::full, y -> y.set(0, 0, 5));
        refused(NO_ARGUMENT, "set of a wrong value when full", Start::full,
                y -> y.set(0, 0, 1000));
        refused(NO_INDEX, "set of a wrong item when full", Start::full,
                y -> y.set(0, 1, 1000));
    }

    /** Values that were told behind 64 others are copied, compared and joined like these. */
    private static void lateValuesStay() {
        MergeAtelier x = Start.withLateValues();
        due(75, "set beside late values", () -> x.set(0, 2, -5));
        sidesDue(x, 75, 0, 170);
        sidesDue(x, 75, 1, 171);
        sidesDue(x, 75, 2, -5);
        due(170L + 171L - 5L, "sum of late values", () -> x.sum(75));
        x.quote(0, 1, -1);
        due(false, "isBroken of late values", () -> x.isBroken(0, 75));
        due(true, "isBroken of an early and a late value", () -> x.isBroken(0, 73));
        due(2, "wouldConflict of late values", () -> x.wouldConflict(0, 1));
        due(76, "merge of late values", () -> x.merge(0, 1));
        sidesDue(x, 76, 0, 170, 172);
        sidesDue(x, 76, 1, 171, 173);
        sidesDue(x, 76, 2, -5);
        due(1, "differences of late values", () -> x.differences(71, 72));
        due(71, "blame of a late value", () -> x.blame(75, 0));
        x.addBranch(74);
        due(77, "pick beside late values", () -> x.pick(2, 75));
        sidesDue(x, 77, 0, 172);
        sidesDue(x, 77, 1, 173);
        sidesDue(x, 77, 2, -5);
        due(78, "pick of a late value", () -> x.pick(2, 72));
        sidesDue(x, 78, 1, 171, 173);
    }

    private static void promise07Clear() {
        promise = "7";
        MergeAtelier x = Start.withConflict();
        due(5, "clear(0, 0)", () -> x.clear(0, 0));
        sidesDue(x, 5, 0, -1000);
        sidesDue(x, 5, 1, -4, 7);
        due(4, "parentAt(5, 0)", () -> x.parentAt(5, 0));
        due(1, "parents(5)", () -> x.parents(5));
        due(5, "head(0)", () -> x.head(0));
        due(NO_OPERATION, "clear(0, 0) again", () -> x.clear(0, 0));
        due(6, "clear of a conflict", () -> x.clear(0, 1));
        sidesDue(x, 6, 1, -1000);
        MergeAtelier half = Start.withHalfConflict();
        sidesDue(half, 4, 0, -1000, 2);
        due(5, "clear of nothing and a value", () -> half.clear(0, 0));
        sidesDue(half, 5, 0, -1000);
        branchRefused("clear", (y, branch) -> y.clear(branch, 0));
        itemRefused("clear", (y, item) -> y.clear(0, item));
        refused(NO_OPERATION, "clear(0, 2)", Start::withConflict, y -> y.clear(0, 2));
        refused(NO_STATE, "clear when full", Start::full, y -> y.clear(0, 0));
        refused(NO_INDEX, "clear of a wrong item when full", Start::full, y -> y.clear(0, 1));
        refused(NO_OPERATION, "clear of nothing when full", Start::fullWithConflict,
                y -> y.clear(0, 2));
    }

    private static void promise08Settle() {
        promise = "8";
        MergeAtelier x = Start.withConflict();
        due(5, "settle(0, 1, 0)", () -> x.settle(0, 1, 0));
        sidesDue(x, 5, 1, -4);
        sidesDue(x, 5, 0, 5);
        sidesDue(x, 4, 1, -4, 7);
        due(5, "head(0)", () -> x.head(0));
        due(4, "parentAt(5, 0)", () -> x.parentAt(5, 0));
        due(1, "parents(5)", () -> x.parents(5));
        due(NO_OPERATION, "settle again", () -> x.settle(0, 1, 0));
        MergeAtelier y = Start.withConflict();
        due(5, "settle(0, 1, 1)", () -> y.settle(0, 1, 1));
        sidesDue(y, 5, 1, 7);
        MergeAtelier half = Start.withHalfConflict();
        due(5, "settle to nothing", () -> half.settle(0, 0, 0));
        sidesDue(half, 5, 0, -1000);
        branchRefused("settle", (z, branch) -> z.settle(branch, 1, 0));
        itemRefused("settle", (z, item) -> z.settle(0, item, 0));
        for (int index : new int[] {-1, 2, 3, LEAST, MOST}) {
            refused(NO_ELEMENT, "settle(0, 1, " + index + ")", Start::withConflict,
                    z -> z.settle(0, 1, index));
            refused(NO_OPERATION, "settle(0, 0, " + index + ")", Start::withConflict,
                    z -> z.settle(0, 0, index));
            refused(NO_ELEMENT, "settle when full", Start::fullWithConflict,
                    z -> z.settle(0, 1, index));
        }
        refused(NO_STATE, "settle when full", Start::fullWithConflict, z -> z.settle(0, 1, 0));
        refused(NO_OPERATION, "settle of no conflict when full", Start::fullWithConflict,
                z -> z.settle(0, 0, 0));
    }

    private static void promise09Tag() {
        promise = "9";
        MergeAtelier x = Start.withConflict();
        due(-1, "tag(0, 4)", () -> x.tag(0, 4));
        due(4, "tag(0, 0)", () -> x.tag(0, 0));
        due(0, "tag(0, 3)", () -> x.tag(0, 3));
        due(-1, "tag(9, 0)", () -> x.tag(9, 0));
        due(3, "tagged(0)", () -> x.tagged(0));
        due(0, "tagged(9)", () -> x.tagged(9));
        x.set(0, 0, 9);
        due(3, "tagged(0) after a change", () -> x.tagged(0));
        commitRefused("tag", (y, commit) -> y.tag(1, commit));
        commitRefused("tag of a wrong tag", (y, commit) -> y.tag(10, commit));
        for (int tag : new int[] {-1, 10, LEAST, MOST}) {
            refused(NO_ARGUMENT, "tag(" + tag + ", 4)", Start::withConflict,
                    y -> y.tag(tag, 4));
        }
    }

    private static void promise10Tagged() {
        promise = "10";
        MergeAtelier x = Start.withConflict();
        due(NO_ELEMENT, "tagged(5)", () -> x.tagged(5));
        x.tag(5, 2);
        due(2, "tagged(5) after tag", () -> x.tagged(5));
        due(NO_ELEMENT, "tagged(4)", () -> x.tagged(4));
        due(NO_ELEMENT, "tagged(6)", () -> x.tagged(6));
        for (int tag : new int[] {-1, 10, LEAST, MOST}) {
            refused(NO_ARGUMENT, "tagged(" + tag + ")", Start::withConflict,
                    y -> y.tagged(tag));
        }
    }

    private static void promise11Commits() {
        promise = "11";
        MergeAtelier x = Start.withConflict();
        due(5, "commits()", () -> x.commits());
        x.settle(0, 1, 0);
        x.clear(0, 0);
        x.pick(1, 6);
        due(8, "commits() after settle, clear and pick", () -> x.commits());
        due(100, "commits() when full", () -> Start.full().commits());
    }

    private static void promise12Parents() {
        promise = "12";
        MergeAtelier x = Start.withConflict();
        due(0, "parents(0)", () -> x.parents(0));
        due(1, "parents(1)", () -> x.parents(1));
        due(2, "parents(4)", () -> x.parents(4));
        x.pick(1, 2);
        due(1, "parents of a pick", () -> x.parents(5));
        commitRefused("parents", (y, commit) -> y.parents(commit));
    }

    private static void promise13ParentAt() {
        promise = "13";
        MergeAtelier x = Start.withConflict();
        due(0, "parentAt(1, 0)", () -> x.parentAt(1, 0));
        due(1, "parentAt(3, 0)", () -> x.parentAt(3, 0));
        due(2, "parentAt(4, 0)", () -> x.parentAt(4, 0));
        due(3, "parentAt(4, 1)", () -> x.parentAt(4, 1));
        commitRefused("parentAt", (y, commit) -> y.parentAt(commit, -1));
        refused(NO_ELEMENT, "parentAt(0, 0)", Start::withConflict, y -> y.parentAt(0, 0));
        refused(NO_ELEMENT, "parentAt(1, 1)", Start::withConflict, y -> y.parentAt(1, 1));
        for (int index : new int[] {-1, 2, LEAST, MOST}) {
            refused(NO_ELEMENT, "parentAt(4, " + index + ")", Start::withConflict,
                    y -> y.parentAt(4, index));
        }
    }

    private static void promise14IsAncestor() {
        promise = "14";
        MergeAtelier x = Start.withConflict();
        due(true, "isAncestor(4, 4)", () -> x.isAncestor(4, 4));
        due(true, "isAncestor(0, 4)", () -> x.isAncestor(0, 4));
        due(true, "isAncestor(2, 4)", () -> x.isAncestor(2, 4));
        due(true, "isAncestor(3, 4)", () -> x.isAncestor(3, 4));
        due(false, "isAncestor(4, 3)", () -> x.isAncestor(4, 3));
        due(false, "isAncestor(2, 3)", () -> x.isAncestor(2, 3));
        x.pick(1, 2);
        due(false, "isAncestor of a picked commit", () -> x.isAncestor(2, 5));
        MergeAtelier all = Start.full();
        for (int commit : new int[] {0, 1, 31, 32, 62, 63, 64, 65, 98, 99}) {
            due(true, "isAncestor(" + commit + ", 99)", () -> all.isAncestor(commit, 99));
            due(commit <= 64, "isAncestor(" + commit + ", 64)", () -> all.isAncestor(commit, 64));
        }
        commitRefused("isAncestor", (y, commit) -> y.isAncestor(commit, 0));
        commitRefused("isAncestor", (y, commit) -> y.isAncestor(0, commit));
    }

    private static void promise15Base() {
        promise = "15";
        MergeAtelier x = Start.withConflict();
        due(1, "base(2, 3)", () -> x.base(2, 3));
        due(1, "base(3, 2)", () -> x.base(3, 2));
        due(3, "base(4, 3)", () -> x.base(4, 3));
        due(2, "base(2, 4)", () -> x.base(2, 4));
        due(4, "base(4, 4)", () -> x.base(4, 4));
        due(0, "base(0, 4)", () -> x.base(0, 4));
        // Two commits that merge the same two crosswise: the greater one of these is the base.
        x.addBranch(2);
        x.addBranch(3);
        x.merge(2, 3);
        x.merge(3, 0);
        due(3, "base(5, 4)", () -> x.base(5, 4));
        due(4, "base(6, 4)", () -> x.base(6, 4));
        due(3, "base(5, 6)", () -> x.base(5, 6));
        MergeAtelier all = Start.full();
        due(70, "base(70, 99)", () -> all.base(70, 99));
        due(63, "base(64, 63)", () -> all.base(64, 63));
        commitRefused("base", (y, commit) -> y.base(commit, 0));
        commitRefused("base", (y, commit) -> y.base(0, commit));
    }

    private static void promise16Sides() {
        promise = "16";
        MergeAtelier x = Start.withConflict();
        due(1, "sides(0, 0)", () -> x.sides(0, 0));
        due(1, "sides(4, 0)", () -> x.sides(4, 0));
        due(2, "sides(4, 1)", () -> x.sides(4, 1));
        due(1, "sides(4, 2)", () -> x.sides(4, 2));
        due(2, "sides of a half conflict", () -> Start.withHalfConflict().sides(4, 0));
        commitRefused("sides", (y, commit) -> y.sides(commit, 0));
        itemRefused("sides", (y, item) -> y.sides(4, item));
    }

    private static void promise17SideAt() {
        promise = "17";
        MergeAtelier x = Start.withConflict();
        due(-1000, "sideAt(0, 1, 0)", () -> x.sideAt(0, 1, 0));
        due(-4, "sideAt(4, 1, 0)", () -> x.sideAt(4, 1, 0));
        due(7, "sideAt(4, 1, 1)", () -> x.sideAt(4, 1, 1));
        MergeAtelier many = Start.withManySides();
        int head = many.head(0);
        sidesDue(many, head, 0, -999, -70, -3, 0, 2, 40, 999);
        wideConflict();
        commitRefused("sideAt", (y, commit) -> y.sideAt(commit, 0, 5));
        itemRefused("sideAt", (y, item) -> y.sideAt(4, item, 5));
        for (int index : new int[] {-1, 2, LEAST, MOST}) {
            refused(NO_ELEMENT, "sideAt(4, 1, " + index + ")", Start::withConflict,
                    y -> y.sideAt(4, 1, index));
        }
        refused(NO_ELEMENT, "sideAt(4, 0, 1)", Start::withConflict, y -> y.sideAt(4, 0, 1));
    }

    /** Fifty sides in one conflict, by turns below and above those told before. */
    private static void wideConflict() {
        MergeAtelier x = Start.withItems(2);
        x.addBranch(0);
        x.set(0, 0, -500);
        for (int i = 1; i <= 49; i++) {
            x.set(1, 0, i % 2 == 0 ? i : -i);
            x.merge(0, 1);
        }
        due(100, "commits()", () -> x.commits());
        due(50, "sides(99, 0)", () -> x.sides(99, 0));
        due(-500, "sideAt(99, 0, 0)", () -> x.sideAt(99, 0, 0));
        for (int i = 0; i < 25; i++) {
            int index = i;
            due(-49 + 2 * i, "odd side " + i, () -> x.sideAt(99, 0, 1 + index));
        }
        for (int i = 0; i < 24; i++) {
            int index = i;
            due(2 + 2 * i, "even side " + i, () -> x.sideByLog(99, 0, 26 + index));
        }
        due(NO_ELEMENT, "sideAt(99, 0, 50)", () -> x.sideAt(99, 0, 50));
    }

    private static void promise18SideByLog() {
        promise = "18";
        MergeAtelier x = Start.withConflict();
        x.quote(0, 1, 3);
        x.pick(1, 2);
        x.settle(0, 1, 1);
        x.clear(0, 0);
        due(-4, "sideByLog(4, 1, 0)", () -> x.sideByLog(4, 1, 0));
        due(7, "sideByLog(4, 1, 1)", () -> x.sideByLog(4, 1, 1));
        due(7, "sideByLog(5, 1, 1)", () -> x.sideByLog(5, 1, 1));
        due(7, "sideByLog(6, 1, 0)", () -> x.sideByLog(6, 1, 0));
        due(-1000, "sideByLog(7, 0, 0)", () -> x.sideByLog(7, 0, 0));
        due(-4, "sideByLog of an earlier commit", () -> x.sideByLog(4, 1, 0));
        due(-1000, "sideByLog(0, 2, 0)", () -> x.sideByLog(0, 2, 0));
        for (int commit = 1; commit < 100; commit += 14) {
            int number = commit;
            due(commit, "sideByLog(" + commit + ", 0, 0)", () -> Start.full().sideByLog(number, 0, 0));
        }
        logKnowsTheQuotesOfThatTime();
        commitRefused("sideByLog", (y, commit) -> y.sideByLog(commit, 0, 5));
        itemRefused("sideByLog", (y, item) -> y.sideByLog(4, item, 5));
        for (int index : new int[] {-1, 2, LEAST, MOST}) {
            refused(NO_ELEMENT, "sideByLog(4, 1, " + index + ")", Start::withConflict,
                    y -> y.sideByLog(4, 1, index));
        }
    }

    /** A quote that is told after a merge does not change what that merge told. */
    private static void logKnowsTheQuotesOfThatTime() {
        MergeAtelier late = Start.crossed();
        late.merge(0, 1);
        late.quote(0, 1, 0);
        sidesDue(late, 5, 0, 2);
        sidesDue(late, 5, 1, 1);
        MergeAtelier early = Start.crossed();
        early.quote(0, 1, 0);
        early.merge(0, 1);
        sidesDue(early, 5, 0, 1, 2);
        sidesDue(early, 5, 1, 1, 2);
    }

    private static void promise19Conflicts() {
        promise = "19";
        MergeAtelier x = Start.withConflict();
        due(0, "conflicts(0)", () -> x.conflicts(0));
        due(0, "conflicts(3)", () -> x.conflicts(3));
        due(1, "conflicts(4)", () -> x.conflicts(4));
        MergeAtelier all = Start.withAllInConflict();
        due(12, "conflicts of twelve items", () -> all.conflicts(all.head(0)));
        commitRefused("conflicts", (y, commit) -> y.conflicts(commit));
    }

    private static void promise20FirstConflict() {
        promise = "20";
        MergeAtelier x = Start.withConflict();
        due(1, "firstConflict(4)", () -> x.firstConflict(4));
        MergeAtelier all = Start.withAllInConflict();
        for (int item = 0; item < 12; item++) {
            int lowest = item;
            due(item, "firstConflict", () -> all.firstConflict(all.head(0)));
            all.settle(0, lowest, 1);
        }
        due(NO_ELEMENT, "firstConflict when all are settled", () -> all.firstConflict(all.head(0)));
        commitRefused("firstConflict", (y, commit) -> y.firstConflict(commit));
        refused(NO_ELEMENT, "firstConflict(3)", Start::withConflict, y -> y.firstConflict(3));
        due(NO_ELEMENT, "firstConflict without items", () -> new MergeAtelier().firstConflict(0));
    }

    private static void promise21Differences() {
        promise = "21";
        MergeAtelier x = Start.withConflict();
        due(0, "differences(4, 4)", () -> x.differences(4, 4));
        due(1, "differences(0, 1)", () -> x.differences(0, 1));
        due(2, "differences(0, 4)", () -> x.differences(0, 4));
        due(2, "differences(4, 0)", () -> x.differences(4, 0));
        due(1, "differences(2, 3)", () -> x.differences(2, 3));
        due(1, "differences of a conflict and one of its sides", () -> x.differences(4, 3));
        MergeAtelier all = Start.withAllInConflict();
        due(12, "differences of twelve items", () -> all.differences(0, all.head(0)));
        commitRefused("differences", (y, commit) -> y.differences(commit, 0));
        commitRefused("differences", (y, commit) -> y.differences(0, commit));
    }

    private static void promise22Blame() {
        promise = "22";
        MergeAtelier x = Start.withConflict();
        due(0, "blame(0, 0)", () -> x.blame(0, 0));
        due(1, "blame(4, 0)", () -> x.blame(4, 0));
        due(4, "blame(4, 1)", () -> x.blame(4, 1));
        due(3, "blame(3, 1)", () -> x.blame(3, 1));
        due(0, "blame(4, 2)", () -> x.blame(4, 2));
        x.set(0, 0, 5);
        due(1, "blame of a change to the same", () -> x.blame(5, 0));
        x.settle(0, 1, 0);
        due(6, "blame of what was settled", () -> x.blame(6, 1));
        x.merge(1, 0);
        due(3, "blame in a fast merge: the first parent", () -> x.blame(7, 1));
        x.set(1, 2, 8);
        x.set(0, 0, 9);
        x.merge(0, 1);
        due(8, "blame in the second parent", () -> x.blame(10, 2));
        due(9, "blame in the first parent alone", () -> x.blame(10, 0));
        due(6, "blame through the first of both parents", () -> x.blame(10, 1));
        commitRefused("blame", (y, commit) -> y.blame(commit, 0));
        itemRefused("blame", (y, item) -> y.blame(4, item));
    }

    private static void promise23Blamed() {
        promise = "23";
        MergeAtelier x = Start.withConflict();
        due(1, "blamed(4, 0)", () -> x.blamed(4, 0));
        due(1, "blamed(4, 1)", () -> x.blamed(4, 1));
        due(0, "blamed(4, 2)", () -> x.blamed(4, 2));
        due(0, "blamed(4, 3)", () -> x.blamed(4, 3));
        due(1, "blamed(4, 4)", () -> x.blamed(4, 4));
        due(3, "blamed(0, 0)", () -> x.blamed(0, 0));
        due(0, "blamed(0, 4)", () -> x.blamed(0, 4));
        due(0, "blamed without items", () -> new MergeAtelier().blamed(0, 0));
        commitRefused("blamed", (y, commit) -> y.blamed(commit, 0));
        commitRefused("blamed", (y, commit) -> y.blamed(0, commit));
    }

    private static void promise24Merge() {
        promise = "24";
        MergeAtelier x = Start.withItems(5);
        x.set(0, 0, 1);
        x.set(0, 1, 1);
        x.set(0, 2, 1);
        x.set(0, 3, 1);
        x.addBranch(4);
        x.set(0, 0, 2);
        x.set(1, 0, 2);
        x.set(0, 1, 3);
        x.set(1, 2, 4);
        x.set(0, 3, 5);
        x.clear(1, 3);
        due(11, "merge(0, 1)", () -> x.merge(0, 1));
        sidesDue(x, 11, 0, 2);
        sidesDue(x, 11, 1, 3);
        sidesDue(x, 11, 2, 4);
        sidesDue(x, 11, 3, -1000, 5);
        sidesDue(x, 11, 4, -1000);
        due(11, "head(0)", () -> x.head(0));
        due(10, "head(1)", () -> x.head(1));
        due(2, "parents(11)", () -> x.parents(11));
        due(9, "parentAt(11, 0)", () -> x.parentAt(11, 0));
        due(10, "parentAt(11, 1)", () -> x.parentAt(11, 1));
        due(NO_OPERATION, "merge(0, 1) again", () -> x.merge(0, 1));
        due(12, "merge(1, 0)", () -> x.merge(1, 0));
        due(0, "differences(11, 12)", () -> x.differences(11, 12));
        conflictsMeet();
        branchRefused("merge", (y, branch) -> y.merge(branch, 0));
        branchRefused("merge", (y, branch) -> y.merge(0, branch));
        refused(NO_OPERATION, "merge(0, 0)", Start::withConflict, y -> y.merge(0, 0));
        refused(NO_OPERATION, "merge(0, 1)", Start::withConflict, y -> y.merge(0, 1));
        refused(NO_OPERATION, "merge(0, 0) when full", Start::full, y -> y.merge(0, 0));
        refused(NO_INDEX, "merge(0, 1) when full", Start::full, y -> y.merge(0, 1));
        refused(NO_STATE, "merge when full", Start::fullAndApart, y -> y.merge(0, 1));
    }

    /** A conflict on one side and another value on the other one make a greater conflict. */
    private static void conflictsMeet() {
        MergeAtelier x = Start.withConflict();
        x.addBranch(1);
        x.set(2, 1, 0);
        x.merge(2, 0);
        sidesDue(x, 6, 1, -4, 0, 7);
        x.settle(0, 1, 1);
        x.merge(2, 0);
        // The base is the commit 4, in which the first one does not hold what it holds now.
        sidesDue(x, 8, 1, -4, 0, 7);
        MergeAtelier kept = Start.withConflict();
        kept.addBranch(4);
        kept.set(0, 0, 1);
        kept.settle(2, 1, 0);
        kept.merge(0, 2);
        sidesDue(kept, 7, 1, -4);
    }

    private static void promise24MergeByQuotes() {
        promise = "24, quotes";
        MergeAtelier x = Start.withItems(3);
        x.set(0, 0, 1);
        x.set(0, 1, 1);
        x.addBranch(2);
        x.quote(0, 1, 0);
        x.set(0, 0, 2);
        x.set(0, 1, 2);
        x.set(0, 2, 6);
        x.set(1, 0, 2);
        x.set(1, 1, 2);
        x.merge(0, 1);
        sidesDue(x, 8, 0, 2);
        sidesDue(x, 8, 1, 2);
        sidesDue(x, 8, 2, 6);
        brokenInOneSideAlready();
        openInOneSideAlready();
        brokenBetweenNothingAndValue();
        brokenByTheMergeAlone();
        quotesByRisingNumbers();
    }

    /** A quote that is broken in one of both commits is let alone. */
    private static void brokenInOneSideAlready() {
        for (int branch = 0; branch < 2; branch++) {
            MergeAtelier x = Start.withItems(3);
            x.set(0, 0, 1);
            x.set(0, 1, 1);
            x.addBranch(2);
            x.quote(0, 1, 0);
            x.set(branch, 1, 3);
            x.set(1 - branch, 2, 8);
            x.merge(0, 1);
            sidesDue(x, 5, 0, 1);
            sidesDue(x, 5, 1, 3);
            sidesDue(x, 5, 2, 8);
            due(true, "isBroken(0, 5)", () -> x.isBroken(0, 5));
        }
    }

    /** A quote that is open in one of both commits is let alone. */
    private static void openInOneSideAlready() {
        for (int branch = 0; branch < 2; branch++) {
            MergeAtelier x = Start.withItems(2);
            x.set(0, 1, 7);
            x.addBranch(1);
            x.set(0, 0, 1);
            x.set(1, 0, 2);
            x.merge(0, 1);
            x.merge(1, 0);
            x.quote(0, 1, 0);
            x.set(branch, 0, 7);
            x.set(1 - branch, 1, 9);
            x.merge(0, 1);
            sidesDue(x, 8, 0, 7);
            sidesDue(x, 8, 1, 9);
        }
    }

    /** Two items that both hold nothing are as the quote wants it, so that a merge can break it. */
    private static void brokenBetweenNothingAndValue() {
        MergeAtelier x = Start.withItems(2);
        x.set(0, 0, 5);
        x.addBranch(1);
        x.quote(0, 1, 0);
        x.clear(0, 0);
        x.set(1, 1, 5);
        x.merge(0, 1);
        sidesDue(x, 4, 0, -1000, 5);
        sidesDue(x, 4, 1, -1000, 5);
    }

    private static void brokenByTheMergeAlone() {
        MergeAtelier x = Start.crossed();
        x.quote(0, 1, 0);
        due(2, "wouldConflict(0, 1)", () -> x.wouldConflict(0, 1));
        due(5, "merge(0, 1)", () -> x.merge(0, 1));
        sidesDue(x, 5, 0, 1, 2);
        sidesDue(x, 5, 1, 1, 2);
        due(false, "isBroken of an open quote", () -> x.isBroken(0, 5));
        MergeAtelier untold = Start.crossed();
        untold.merge(0, 1);
        sidesDue(untold, 5, 0, 2);
        sidesDue(untold, 5, 1, 1);
        MergeAtelier shifted = Start.crossed();
        shifted.quote(0, 1, 1);
        shifted.merge(0, 1);
        sidesDue(shifted, 5, 0, 2);
        sidesDue(shifted, 5, 1, 1);
    }

    /** What an earlier quote made a conflict leaves a later quote open, so that it is let alone. */
    private static void quotesByRisingNumbers() {
        MergeAtelier x = Start.withItems(4);
        x.set(0, 0, 1);
        x.set(0, 1, 2);
        x.set(0, 2, 1);
        x.addBranch(3);
        x.quote(0, 1, 0);
        x.quote(2, 1, 0);
        x.set(0, 0, 2);
        x.set(0, 2, 2);
        x.set(1, 1, 1);
        x.merge(0, 1);
        sidesDue(x, 7, 0, 1, 2);
        sidesDue(x, 7, 1, 1, 2);
        sidesDue(x, 7, 2, 2);
    }

    private static void promise25WouldConflict() {
        promise = "25";
        MergeAtelier x = Start.withItems(3);
        x.addBranch(0);
        due(0, "wouldConflict(0, 1) of the same head", () -> x.wouldConflict(0, 1));
        x.set(0, 0, 1);
        x.set(0, 1, 1);
        x.set(1, 0, 2);
        due(1, "wouldConflict(0, 1)", () -> x.wouldConflict(0, 1));
        x.set(1, 1, 2);
        x.set(1, 2, 2);
        due(2, "wouldConflict(0, 1)", () -> x.wouldConflict(0, 1));
        due(2, "wouldConflict(1, 0)", () -> x.wouldConflict(1, 0));
        due(6, "commits()", () -> x.commits());
        due(2, "head(0)", () -> x.head(0));
        due(5, "head(1)", () -> x.head(1));
        MergeAtelier open = Start.withConflict();
        due(1, "wouldConflict(0, 0) of an open head", () -> open.wouldConflict(0, 0));
        due(1, "wouldConflict(0, 1) of an ancestor", () -> open.wouldConflict(0, 1));
        due(1, "wouldConflict(1, 0)", () -> open.wouldConflict(1, 0));
        due(1, "wouldConflict when full", () -> Start.fullAndApart().wouldConflict(0, 1));
        branchRefused("wouldConflict", (y, branch) -> y.wouldConflict(branch, 0));
        branchRefused("wouldConflict", (y, branch) -> y.wouldConflict(0, branch));
    }

    private static void promise26IsAlike() {
        promise = "26";
        MergeAtelier x = Start.withConflict();
        due(true, "isAlike(0, 1)", () -> x.isAlike(0, 1));
        due(true, "isAlike(1, 0)", () -> x.isAlike(1, 0));
        due(true, "isAlike(0, 0)", () -> x.isAlike(0, 0));
        MergeAtelier tied = Start.crossed();
        tied.quote(0, 1, 0);
        due(true, "isAlike with a quote", () -> tied.isAlike(0, 1));
        due(5, "commits()", () -> tied.commits());
        due(true, "isAlike when full", () -> Start.fullAndApart().isAlike(0, 1));
        branchRefused("isAlike", (y, branch) -> y.isAlike(branch, 0));
        branchRefused("isAlike", (y, branch) -> y.isAlike(0, branch));
    }

    private static void promise27Pick() {
        promise = "27";
        MergeAtelier x = Start.withConflict();
        due(5, "pick(1, 2)", () -> x.pick(1, 2));
        sidesDue(x, 5, 1, -4, 7);
        sidesDue(x, 5, 0, 5);
        due(5, "head(1)", () -> x.head(1));
        due(4, "head(0)", () -> x.head(0));
        due(1, "parents(5)", () -> x.parents(5));
        due(3, "parentAt(5, 0)", () -> x.parentAt(5, 0));
        x.addBranch(1);
        due(6, "pick into a branch that holds what the parent does", () -> x.pick(2, 3));
        sidesDue(x, 6, 1, -4);
        due(7, "pick of what is there", () -> x.pick(2, 3));
        sidesDue(x, 7, 1, -4);
        x.clear(0, 0);
        due(9, "pick of a clear", () -> x.pick(2, 8));
        sidesDue(x, 9, 0, -1000);
        sidesDue(x, 9, 1, -4);
        due(10, "pick of a pick", () -> x.pick(0, 5));
        sidesDue(x, 10, 1, -4, 7);
        x.set(0, 0, 6);
        x.set(0, 0, 6);
        due(13, "pick of a change to the same", () -> x.pick(1, 12));
        due(0, "differences(13, 5)", () -> x.differences(13, 5));
        MergeAtelier tied = Start.crossed();
        tied.quote(0, 1, 0);
        tied.pick(0, 4);
        sidesDue(tied, 5, 0, 2);
        sidesDue(tied, 5, 1, 1);
        branchRefused("pick", (y, branch) -> y.pick(branch, 0));
        commitRefused("pick", (y, commit) -> y.pick(0, commit));
        refused(NO_OPERATION, "pick(0, 0)", Start::withConflict, y -> y.pick(0, 0));
        refused(NO_OPERATION, "pick(0, 4)", Start::withConflict, y -> y.pick(0, 4));
        refused(NO_STATE, "pick when full", Start::full, y -> y.pick(0, 9));
        refused(NO_OPERATION, "pick(0, 0) when full", Start::full, y -> y.pick(0, 0));
        refused(NO_INDEX, "pick(0, 100) when full", Start::full, y -> y.pick(0, 100));
    }

    private static void promise28Quote() {
        promise = "28";
        MergeAtelier x = Start.withItems(3);
        due(0, "quote(0, 1, 99)", () -> x.quote(0, 1, 99));
        due(1, "quote(1, 0, -99)", () -> x.quote(1, 0, -99));
        for (int number = 2; number < 10; number++) {
            due(number, "quote(2, 0, 0)", () -> x.quote(2, 0, 0));
        }
        due(NO_STATE, "an 11th quote", () -> x.quote(0, 1, 0));
        due(NO_ARGUMENT, "an 11th quote of one item", () -> x.quote(1, 1, 0));
        due(NO_INDEX, "an 11th quote of no item", () -> x.quote(3, 3, 100));
        due(NO_INDEX, "isBroken(10, 0)", () -> x.isBroken(10, 0));
        due(1, "commits()", () -> x.commits());
        itemRefused("quote", (y, item) -> y.quote(item, 0, 100));
        itemRefused("quote", (y, item) -> y.quote(0, item, 100));
        refused(NO_ARGUMENT, "quote(1, 1, 0)", Start::withConflict, y -> y.quote(1, 1, 0));
        for (int shift : new int[] {100, -100, LEAST, MOST}) {
            refused(NO_ARGUMENT, "quote(0, 1, " + shift + ")", Start::withConflict,
                    y -> y.quote(0, 1, shift));
        }
    }

    private static void promise29IsBroken() {
        promise = "29";
        MergeAtelier x = Start.withItems(2);
        x.quote(0, 1, 3);
        due(false, "isBroken of two that hold nothing", () -> x.isBroken(0, 0));
        x.set(0, 0, 10);
        due(true, "isBroken of a value and nothing", () -> x.isBroken(0, 1));
        x.set(0, 1, 7);
        due(false, "isBroken of 10 = 7 + 3", () -> x.isBroken(0, 2));
        x.set(0, 1, 13);
        due(true, "isBroken of 10 = 13 + 3", () -> x.isBroken(0, 3));
        x.clear(0, 0);
        due(true, "isBroken of nothing and a value", () -> x.isBroken(0, 4));
        x.set(0, 0, 16);
        due(false, "isBroken of 16 = 13 + 3", () -> x.isBroken(0, 5));
        // Nothing is no value, though it is answered as -1000.
        MergeAtelier edge = Start.withItems(2);
        edge.quote(0, 1, 1);
        edge.set(0, 0, -999);
        due(true, "isBroken of -999 and nothing", () -> edge.isBroken(0, 1));
        MergeAtelier open = Start.withConflict();
        open.quote(0, 1, 99);
        open.quote(1, 0, 99);
        open.quote(0, 2, 5);
        due(false, "isBroken of an open quote", () -> open.isBroken(0, 4));
        due(false, "isBroken of an open quote", () -> open.isBroken(1, 4));
        due(true, "isBroken(2, 4)", () -> open.isBroken(2, 4));
        due(true, "isBroken(0, 2)", () -> open.isBroken(0, 2));
        for (int quote : new int[] {-1, 3, 10, LEAST, MOST}) {
            due(NO_INDEX, "isBroken(" + quote + ", 4)", () -> open.isBroken(quote, 4));
        }
        for (int commit : new int[] {-1, 5, LEAST, MOST}) {
            due(NO_INDEX, "isBroken(0, " + commit + ")", () -> open.isBroken(0, commit));
        }
    }

    private static void promise30Broken() {
        promise = "30";
        MergeAtelier x = Start.withConflict();
        due(0, "broken(4) without quotes", () -> x.broken(4));
        x.quote(0, 1, 0);
        x.quote(0, 2, 0);
        x.quote(0, 1, -2);
        x.quote(2, 0, 7);
        due(0, "broken(0)", () -> x.broken(0));
        due(4, "broken(1)", () -> x.broken(1));
        due(3, "broken(2)", () -> x.broken(2));
        due(2, "broken(4)", () -> x.broken(4));
        for (int commit : new int[] {-1, 5, LEAST, MOST}) {
            due(NO_INDEX, "broken(" + commit + ")", () -> x.broken(commit));
        }
    }

    private static void promise31Sum() {
        promise = "31";
        MergeAtelier x = Start.withConflict();
        due(0L, "sum(0)", () -> x.sum(0));
        due(5L, "sum(1)", () -> x.sum(1));
        due(12L, "sum(2)", () -> x.sum(2));
        due(1L, "sum(3)", () -> x.sum(3));
        due(5L, "sum(4)", () -> x.sum(4));
        due(0L, "sum of a half conflict", () -> Start.withHalfConflict().sum(4));
        MergeAtelier most = Start.withItems(12);
        for (int item = 0; item < 12; item++) {
            most.set(0, item, -999);
        }
        due(-11988L, "sum of twelve", () -> most.sum(12));
        commitRefused("sum", (y, commit) -> y.sum(commit));
    }

    private static void promise32ConflictShare() {
        promise = "32";
        MergeAtelier x = Start.withConflict();
        due(1f / 3f, "conflictShare(4)", () -> x.conflictShare(4));
        due(0f, "conflictShare(3)", () -> x.conflictShare(3));
        x.addItem('t');
        due(0.25f, "conflictShare(4) with one item more", () -> x.conflictShare(4));
        MergeAtelier all = Start.withAllInConflict();
        due(1f, "conflictShare of twelve", () -> all.conflictShare(all.head(0)));
        MergeAtelier none = new MergeAtelier();
        due(NO_ELEMENT, "conflictShare(0) without items", () -> none.conflictShare(0));
        due(NO_INDEX, "conflictShare(1) without items", () -> none.conflictShare(1));
        commitRefused("conflictShare", (y, commit) -> y.conflictShare(commit));
    }
}

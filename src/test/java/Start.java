/** Objects to begin a test with. */
final class Start {
    private Start() {
    }

    /** Nothing but the commit 0 and the branch 0. */
    static MergeAtelier empty() {
        return new MergeAtelier();
    }

    static MergeAtelier withItems(int items) {
        MergeAtelier x = new MergeAtelier();
        addItems(x, items);
        return x;
    }

    private static void addItems(MergeAtelier x, int items) {
        for (int item = 0; item < items; item++) {
            x.addItem("tcs".charAt(item % 3));
        }
    }

    /** One item, which holds all of these sides in the head of the branch 0; none of them is 555. */
    static MergeAtelier holding(int... sides) {
        MergeAtelier x = withItems(1);
        x.set(0, 0, 555);
        x.addBranch(1);
        for (int i = 0; i < sides.length; i++) {
            int branch = i == 0 ? 0 : 1;
            if (sides[i] == -1000) {
                x.clear(branch, 0);
            } else {
                x.set(branch, 0, sides[i]);
            }
            if (i > 0) {
                x.merge(0, 1);
            }
        }
        return x;
    }

    /**
     * 99 commits. In the head 98 of the branch 0 the item 0 holds 98, the item 2 holds 8, and the items 1 and 3 hold
     * a conflict of 1 and 2; the head 7 of the branch 1, a change of the item 0, is no ancestor of that one.
     */
    static MergeAtelier almostFull() {
        MergeAtelier x = withItems(4);
        x.addBranch(0);
        x.set(0, 1, 1);
        x.set(0, 3, 1);
        x.set(0, 2, 8);
        x.set(1, 1, 2);
        x.set(1, 3, 2);
        x.merge(0, 1);
        x.set(1, 0, 9);
        for (int commit = 8; commit < 99; commit++) {
            x.set(0, 0, commit);
        }
        return x;
    }

    /**
     * Three items, two branches. Commits: 1 sets item 0 to 5, 2 sets item 1 to 7 in the branch 0,
     * 3 sets item 1 to -4 in the branch 1, and 4 merges the branch 1 into the branch 0: the item 1
     * holds -4 and 7 there.
     */
    static MergeAtelier withConflict() {
        MergeAtelier x = withItems(3);
        x.set(0, 0, 5);
        x.addBranch(1);
        x.set(0, 1, 7);
        x.set(1, 1, -4);
        x.merge(0, 1);
        return x;
    }

    /** One item, and 100 commits in the branch 0; the commit n sets the item to n. */
    static MergeAtelier full() {
        MergeAtelier x = withItems(1);
        for (int value = 1; value < 100; value++) {
            x.set(0, 0, value);
        }
        return x;
    }

    /** 100 commits; in the head 99 of the branch 0 the item 1 holds a conflict of -4 and 7. */
    static MergeAtelier fullWithConflict() {
        MergeAtelier x = withConflict();
        for (int commit = 5; commit < 100; commit++) {
            x.set(0, 0, commit);
        }
        return x;
    }

    /**
     * Three items, 75 commits, and a second branch: in the head of the branch 0 the items hold 170, 171 and
     * nothing, in that of the branch 1 they hold 172, 173 and nothing, each value told behind 64 others.
     */
    static MergeAtelier withLateValues() {
        MergeAtelier x = withItems(3);
        for (int value = 0; value < 70; value++) {
            x.set(0, 0, value);
        }
        x.addBranch(70);
        x.set(0, 0, 170);
        x.set(0, 1, 171);
        x.set(1, 0, 172);
        x.set(1, 1, 173);
        return x;
    }

    /** The item 0 holds nothing and 2 in the merge 4 of both branches. */
    static MergeAtelier withHalfConflict() {
        MergeAtelier x = withItems(2);
        x.set(0, 0, 1);
        x.addBranch(1);
        x.clear(0, 0);
        x.set(1, 0, 2);
        x.merge(0, 1);
        return x;
    }

    /** 100 commits, and the head of the branch 1 is no ancestor of that of the branch 0. */
    static MergeAtelier fullAndApart() {
        MergeAtelier x = withItems(1);
        x.addBranch(0);
        x.set(1, 0, 1);
        for (int value = 2; value < 100; value++) {
            x.set(0, 0, value);
        }
        return x;
    }

    /**
     * The items 0 and 1 hold 2 and 2 in the head of the branch 0, and 1 and 1 in that of the branch 1.
     * Since each head was changed in one item alone, a merge tells 2 and 1, unless a quote is told.
     */
    static MergeAtelier crossed() {
        MergeAtelier x = withItems(4);
        x.set(0, 0, 1);
        x.set(0, 1, 2);
        x.addBranch(2);
        x.set(0, 0, 2);
        x.set(1, 1, 1);
        return x;
    }

    /** The item 0 holds seven values in the head of the branch 0, told in no order. */
    static MergeAtelier withManySides() {
        MergeAtelier x = withItems(2);
        x.addBranch(0);
        x.set(0, 0, 40);
        for (int value : new int[] {-3, 999, 0, -999, 2, -70}) {
            x.set(1, 0, value);
            x.merge(0, 1);
        }
        return x;
    }

    static MergeAtelier withAllInConflict() {
        MergeAtelier x = withItems(12);
        x.addBranch(0);
        for (int item = 0; item < 12; item++) {
            x.set(0, item, item);
            x.set(1, item, item - 50);
        }
        x.merge(0, 1);
        return x;
    }

    /**
     * All that can be full is full: 12 items, 5 branches, 10 quotes, 100 commits, and 10 tags that keep one each.
     * In the head of the branch 0 the item 0 holds a conflict of 1 and 2, and the item 11 nothing, as in all
     * commits; the head 99 of the branch 1, a change of the item 0, is no ancestor of that one.
     */
    static MergeAtelier packed() {
        return packInto(new MergeAtelier());
    }

    /** Makes of a new object a packed one. */
    static MergeAtelier packInto(MergeAtelier x) {
        addItems(x, 12);
        for (int branch = 1; branch < 5; branch++) {
            x.addBranch(0);
        }
        for (int quote = 0; quote < 10; quote++) {
            x.quote(quote, quote + 1, 11 * quote - 50);
        }
        for (int commit = 1; commit < 96; commit++) {
            makeCommit(x, commit);
        }
        x.set(0, 0, 1);
        x.set(1, 0, 2);
        x.merge(0, 1);
        x.set(1, 0, 3);
        for (int tag = 0; tag < 10; tag++) {
            x.tag(tag, 11 * tag);
        }
        return x;
    }

    private static void makeCommit(MergeAtelier x, int number) {
        int branch = number % 5;
        if (number > 20 && number % 7 == 0) {
            x.pick(branch, number - 1);
        } else if (number > 20 && number % 7 == 3) {
            x.merge(branch, (branch + 1) % 5);
        } else {
            x.set(branch, number % 11, 10 * number - 500);
        }
    }
}

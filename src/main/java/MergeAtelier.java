import java.util.NoSuchElementException;

/**
 * A merge tool with one history: items are changed in branches, branches are merged, and what
 * each item holds is kept for each commit. README.md tells how to use it.
 */
public final class MergeAtelier {
    private static final int MAX_ITEMS = 12;
    private static final int MAX_COMMITS = 100;
    private static final int MAX_BRANCHES = 5;
    private static final int MAX_TAGS = 10;
    private static final int MAX_QUOTES = 10;
    private static final int MAX_VALUE = 999;
    private static final int MAX_SHIFT = 99;

    /** How nothing is answered; it is less than all values, so that it comes first. */
    private static final int NOTHING = -1000;

    /** Where there is no commit or no side. */
    private static final int NONE = -1;

    /** Rows behind those of the commits, for merges that are tried, but not made. */
    private static final int TRIAL = MAX_COMMITS;
    private static final int TURNED_TRIAL = MAX_COMMITS + 1;
    private static final int ROWS = MAX_COMMITS + 2;

    private final char[] kinds;
    private int itemCount;
    private final int[] heads;
    private int branchCount;
    private final int[] tags;
    private final Log log;
    private final Palette palette;
    private final Quotes quotes;
    private final Scribe scribe;
    private final Table kept;
    private final Table replayed;

    public MergeAtelier() {
        kinds = new char[MAX_ITEMS];
        heads = new int[MAX_BRANCHES];
        branchCount = 1;
        tags = new int[MAX_TAGS];
        for (int i = 0; i < tags.length; i++) {
            tags[i] = NONE;
        }
        log = new Log();
        palette = new Palette();
        quotes = new Quotes();
        scribe = new Scribe(log, quotes);
        kept = new Table(palette);
        replayed = new Table(palette);
        scribe.write(kept, 0);
    }

    // Items, branches and changes.

    public int addItem(char kind) throws IllegalArgumentException, IllegalStateException {
        if (kind != 't' && kind != 'c' && kind != 's') {
            throw new IllegalArgumentException("no such kind");
        }
        if (itemCount >= MAX_ITEMS) {
            throw new IllegalStateException("no more items");
        }
        kinds[itemCount] = kind;
        itemCount++;
        return itemCount - 1;
    }

    public char kindOf(int item) throws IndexOutOfBoundsException {
        requireItem(item);
        return kinds[item];
    }

    public int addBranch(int commit) throws IndexOutOfBoundsException, IllegalStateException {
        requireCommit(commit);
        if (branchCount >= MAX_BRANCHES) {
            throw new IllegalStateException("no more branches");
        }
        heads[branchCount] = commit;
        branchCount++;
        return branchCount - 1;
    }

    public int head(int branch) throws IndexOutOfBoundsException {
        requireBranch(branch);
        return heads[branch];
    }

    public int set(int branch, int item, int value)
            throws IndexOutOfBoundsException, IllegalArgumentException, IllegalStateException {
        requireBranch(branch);
        requireItem(item);
        if (value < -MAX_VALUE || value > MAX_VALUE) {
            throw new IllegalArgumentException("no such value");
        }
        requireRoomForCommit();
        return moveHead(branch, log.addChange(heads[branch], item, palette.numberOf(value)));
    }

    public int clear(int branch, int item)
            throws IndexOutOfBoundsException, UnsupportedOperationException, IllegalStateException {
        requireBranch(branch);
        requireItem(item);
        if (kept.holdsNothingElse(heads[branch], item)) {
            throw new UnsupportedOperationException("the item holds nothing");
        }
        requireRoomForCommit();
        return moveHead(branch, log.addChange(heads[branch], item, Palette.NOTHING_NUMBER));
    }

    public int settle(int branch, int item, int index)
            throws IndexOutOfBoundsException, UnsupportedOperationException,
            NoSuchElementException, IllegalStateException {
        requireBranch(branch);
        requireItem(item);
        if (!kept.holdsConflict(heads[branch], item)) {
            throw new UnsupportedOperationException("the item holds no conflict");
        }
        int side = requireSide(kept, heads[branch], item, index);
        requireRoomForCommit();
        return moveHead(branch, log.addChange(heads[branch], item, side));
    }

    public int tag(int tag, int commit) throws IndexOutOfBoundsException, IllegalArgumentException {
        requireCommit(commit);
        requireTag(tag);
        int before = tags[tag];
        tags[tag] = commit;
        return before;
    }

    public int tagged(int tag) throws IllegalArgumentException, NoSuchElementException {
        requireTag(tag);
        if (tags[tag] == NONE) {
            throw new NoSuchElementException("the tag keeps no commit");
        }
        return tags[tag];
    }

    // Commits and contents.

    public int commits() {
        return log.count;
    }

    public int parents(int commit) throws IndexOutOfBoundsException {
        requireCommit(commit);
        return log.parentCount(commit);
    }

    public int parentAt(int commit, int index)
            throws IndexOutOfBoundsException, NoSuchElementException {
        requireCommit(commit);
        if (index < 0 || index >= log.parentCount(commit)) {
            throw new NoSuchElementException("no such parent");
        }
        return index == 0 ? log.first[commit] : log.second[commit];
    }

    public boolean isAncestor(int commit, int other) throws IndexOutOfBoundsException {
        requireCommit(commit);
        requireCommit(other);
        return log.descends(other, commit);
    }

    public int base(int commit, int other) throws IndexOutOfBoundsException {
        requireCommit(commit);
        requireCommit(other);
        return log.greatestShared(commit, other);
    }

    public int sides(int commit, int item) throws IndexOutOfBoundsException {
        requireCommit(commit);
        requireItem(item);
        return kept.sideCount(commit, item);
    }

    public int sideAt(int commit, int item, int index)
            throws IndexOutOfBoundsException, NoSuchElementException {
        requireCommit(commit);
        requireItem(item);
        return palette.values[requireSide(kept, commit, item, index)];
    }

    public int sideByLog(int commit, int item, int index)
            throws IndexOutOfBoundsException, NoSuchElementException {
        requireCommit(commit);
        requireItem(item);
        // A pick may need any earlier commit, so all up to this one are written again.
        for (int earlier = 0; earlier <= commit; earlier++) {
            scribe.write(replayed, earlier);
        }
        return palette.values[requireSide(replayed, commit, item, index)];
    }

    public int conflicts(int commit) throws IndexOutOfBoundsException {
        requireCommit(commit);
        return kept.conflictCount(commit);
    }

    public int firstConflict(int commit) throws IndexOutOfBoundsException, NoSuchElementException {
        requireCommit(commit);
        for (int item = 0; item < itemCount; item++) {
            if (kept.holdsConflict(commit, item)) {
                return item;
            }
        }
        throw new NoSuchElementException("no item holds a conflict");
    }

    public int differences(int commit, int other) throws IndexOutOfBoundsException {
        requireCommit(commit);
        requireCommit(other);
        return kept.differenceCount(commit, other);
    }

    public int blame(int commit, int item) throws IndexOutOfBoundsException {
        requireCommit(commit);
        requireItem(item);
        return findBlame(commit, item);
    }

    public int blamed(int commit, int other) throws IndexOutOfBoundsException {
        requireCommit(commit);
        requireCommit(other);
        int count = 0;
        for (int item = 0; item < itemCount; item++) {
            if (findBlame(commit, item) == other) {
                count++;
            }
        }
        return count;
    }

    // Merges, picks and quotes.

    public int merge(int branch, int other)
            throws IndexOutOfBoundsException, UnsupportedOperationException, IllegalStateException {
        requireBranch(branch);
        requireBranch(other);
        if (log.descends(heads[branch], heads[other])) {
            throw new UnsupportedOperationException("the other head is an ancestor");
        }
        requireRoomForCommit();
        return moveHead(branch, log.addMerge(heads[branch], heads[other], quotes.count));
    }

    public int wouldConflict(int branch, int other) throws IndexOutOfBoundsException {
        requireBranch(branch);
        requireBranch(other);
        scribe.writeMerge(kept, TRIAL, heads[branch], heads[other], quotes.count);
        return kept.conflictCount(TRIAL);
    }

    public boolean isAlike(int branch, int other) throws IndexOutOfBoundsException {
        requireBranch(branch);
        requireBranch(other);
        scribe.writeMerge(kept, TRIAL, heads[branch], heads[other], quotes.count);
        scribe.writeMerge(kept, TURNED_TRIAL, heads[other], heads[branch], quotes.count);
        return kept.differenceCount(TRIAL, TURNED_TRIAL) == 0;
    }

    public int pick(int branch, int commit)
            throws IndexOutOfBoundsException, UnsupportedOperationException, IllegalStateException {
        requireBranch(branch);
        requireCommit(commit);
        if (log.parentCount(commit) != 1) {
            throw new UnsupportedOperationException("the commit does not have one parent");
        }
        requireRoomForCommit();
        return moveHead(branch, log.addPick(heads[branch], commit));
    }

    public int quote(int item, int other, int shift)
            throws IndexOutOfBoundsException, IllegalArgumentException, IllegalStateException {
        requireItem(item);
        requireItem(other);
        if (item == other || shift < -MAX_SHIFT || shift > MAX_SHIFT) {
            throw new IllegalArgumentException("no such quote can be told");
        }
        if (quotes.count >= MAX_QUOTES) {
            throw new IllegalStateException("no more quotes");
        }
        return quotes.add(item, other, shift);
    }

    public boolean isBroken(int quote, int commit) throws IndexOutOfBoundsException {
        if (quote < 0 || quote >= quotes.count) {
            throw new IndexOutOfBoundsException("no such quote");
        }
        requireCommit(commit);
        return quotes.stateIn(quote, kept, commit) == Quotes.BROKEN;
    }

    public int broken(int commit) throws IndexOutOfBoundsException {
        requireCommit(commit);
        int count = 0;
        for (int quote = 0; quote < quotes.count; quote++) {
            if (quotes.stateIn(quote, kept, commit) == Quotes.BROKEN) {
                count++;
            }
        }
        return count;
    }

    public long sum(int commit) throws IndexOutOfBoundsException {
        requireCommit(commit);
        long total = 0L;
        for (int item = 0; item < itemCount; item++) {
            if (!kept.holdsConflict(commit, item) && !kept.holdsNothingElse(commit, item)) {
                total += kept.loneValue(commit, item);
            }
        }
        return total;
    }

    public float conflictShare(int commit)
            throws IndexOutOfBoundsException, NoSuchElementException {
        requireCommit(commit);
        if (itemCount == 0) {
            throw new NoSuchElementException("there are no items");
        }
        return (float) kept.conflictCount(commit) / (float) itemCount;
    }

    // What the calls above share.

    private void requireItem(int item) {
        if (item < 0 || item >= itemCount) {
            throw new IndexOutOfBoundsException("no such item");
        }
    }

    private void requireBranch(int branch) {
        if (branch < 0 || branch >= branchCount) {
            throw new IndexOutOfBoundsException("no such branch");
        }
    }

    private void requireCommit(int commit) {
        if (commit < 0 || commit >= log.count) {
            throw new IndexOutOfBoundsException("no such commit");
        }
    }

    private void requireTag(int tag) {
        if (tag < 0 || tag >= MAX_TAGS) {
            throw new IllegalArgumentException("no such tag");
        }
    }

    private void requireRoomForCommit() {
        if (log.count >= MAX_COMMITS) {
            throw new IllegalStateException("no more commits");
        }
    }

    /** Returns the number of the side that an item holds at an index. */
    private int requireSide(Table table, int commit, int item, int index) {
        int side = table.sideAtIndex(commit, item, index);
        if (side == NONE) {
            throw new NoSuchElementException("no such side");
        }
        return side;
    }

    /** Keeps what a logged commit holds, and makes it the head of a branch. */
    private int moveHead(int branch, int commit) {
        scribe.write(kept, commit);
        heads[branch] = commit;
        return commit;
    }

    private int findBlame(int commit, int item) {
        int at = commit;
        for (int steps = 0; steps < MAX_COMMITS; steps++) {
            int parent = findSameParent(at, item);
            if (parent == NONE) {
                return at;
            }
            at = parent;
        }
        return at;
    }

    /** Returns the first one of the parents in which the item holds the same, or NONE. */
    private int findSameParent(int commit, int item) {
        int first = log.first[commit];
        if (first != NONE && kept.holdsSame(item, commit, first)) {
            return first;
        }
        int second = log.second[commit];
        if (second != NONE && kept.holdsSame(item, commit, second)) {
            return second;
        }
        return NONE;
    }

    // Sets of numbers from 0 to 127 stand in two longs each.

    private static long lowBit(int number) {
        return number < 64 ? 1L << number : 0L;
    }

    private static long highBit(int number) {
        return number < 64 ? 0L : 1L << (number - 64);
    }

    private static boolean hasNumber(long low, long high, int number) {
        return ((low & lowBit(number)) | (high & highBit(number))) != 0L;
    }

    /** The sides that were told, each with a short number, so that a set of them is small. */
    private static final class Palette {
        static final int NOTHING_NUMBER = 0;

        final int[] values;
        private final int[] risingNumbers;
        int count;

        Palette() {
            // Nothing is there with the commit 0, and each value comes with a commit of its own.
            values = new int[MAX_COMMITS];
            risingNumbers = new int[MAX_COMMITS];
            values[NOTHING_NUMBER] = NOTHING;
            count = 1;
        }

        /** Returns the number of a value, which is new if the value was not told before. */
        int numberOf(int value) {
            for (int number = 0; number < count; number++) {
                if (values[number] == value) {
                    return number;
                }
            }
            return count < MAX_COMMITS ? add(value) : NOTHING_NUMBER;
        }

        /** Returns the number of the side at a place in the order of all sides told. */
        int numberInOrder(int place) {
            return risingNumbers[place];
        }

        private int add(int value) {
            int place = count;
            while (place > 0 && values[risingNumbers[place - 1]] > value) {
                risingNumbers[place] = risingNumbers[place - 1];
                place--;
            }
            risingNumbers[place] = count;
            values[count] = value;
            count++;
            return count - 1;
        }
    }

    /** All that was done, a line for each commit, and how commits descend from each other. */
    private static final class Log {
        static final int BEGINNING = 0;
        static final int CHANGE = 1;
        static final int MERGE = 2;
        static final int PICK = 3;

        final int[] deed;
        final int[] first;
        final int[] second;
        final int[] item;
        final int[] side;
        final int[] picked;
        final int[] quoteCount;
        private final long[] lowAncestors;
        private final long[] highAncestors;
        int count;

        /** A log with the line of the commit 0. */
        Log() {
            deed = new int[MAX_COMMITS];
            first = new int[MAX_COMMITS];
            second = new int[MAX_COMMITS];
            item = new int[MAX_COMMITS];
            side = new int[MAX_COMMITS];
            picked = new int[MAX_COMMITS];
            quoteCount = new int[MAX_COMMITS];
            lowAncestors = new long[MAX_COMMITS];
            highAncestors = new long[MAX_COMMITS];
            addLine(BEGINNING, NONE, NONE);
        }

        int addChange(int head, int changedItem, int toldSide) {
            int commit = addLine(CHANGE, head, NONE);
            item[commit] = changedItem;
            side[commit] = toldSide;
            return commit;
        }

        int addMerge(int firstHead, int secondHead, int quotesThen) {
            int commit = addLine(MERGE, firstHead, secondHead);
            quoteCount[commit] = quotesThen;
            return commit;
        }

        int addPick(int head, int pickedCommit) {
            int commit = addLine(PICK, head, NONE);
            picked[commit] = pickedCommit;
            return commit;
        }

        private int addLine(int done, int firstParent, int secondParent) {
            int commit = count;
            deed[commit] = done;
            first[commit] = firstParent;
            second[commit] = secondParent;
            lowAncestors[commit] = lowBit(commit);
            highAncestors[commit] = highBit(commit);
            addAncestorsOf(commit, firstParent);
            addAncestorsOf(commit, secondParent);
            count++;
            return commit;
        }

        private void addAncestorsOf(int commit, int parent) {
            if (parent != NONE) {
                lowAncestors[commit] |= lowAncestors[parent];
                highAncestors[commit] |= highAncestors[parent];
            }
        }

        int parentCount(int commit) {
            if (first[commit] == NONE) {
                return 0;
            }
            return second[commit] == NONE ? 1 : 2;
        }

        boolean descends(int commit, int ancestor) {
            return hasNumber(lowAncestors[commit], highAncestors[commit], ancestor);
        }

        /** Returns the greatest one of the commits that are ancestors of both. */
        int greatestShared(int one, int other) {
            long low = lowAncestors[one] & lowAncestors[other];
            long high = highAncestors[one] & highAncestors[other];
            for (int commit = Math.min(one, other); commit > 0; commit--) {
                if (hasNumber(low, high, commit)) {
                    return commit;
                }
            }
            return 0;
        }
    }

    /** What all items hold, in a row for each commit and in two more for trials. */
    private static final class Table {
        private final Palette palette;
        private final long[] low;
        private final long[] high;

        Table(Palette sidesTold) {
            palette = sidesTold;
            low = new long[ROWS * MAX_ITEMS];
            high = new long[ROWS * MAX_ITEMS];
        }

        private static int cell(int row, int item) {
            return row * MAX_ITEMS + item;
        }

        void emptyRow(int row) {
            for (int item = 0; item < MAX_ITEMS; item++) {
                holdSide(row, item, Palette.NOTHING_NUMBER);
            }
        }

        void copyRow(int row, int from) {
            System.arraycopy(low, cell(from, 0), low, cell(row, 0), MAX_ITEMS);
            System.arraycopy(high, cell(from, 0), high, cell(row, 0), MAX_ITEMS);
        }

        void holdSide(int row, int item, int side) {
            int at = cell(row, item);
            low[at] = lowBit(side);
            high[at] = highBit(side);
        }

        void holdWhat(int row, int item, int from) {
            int at = cell(row, item);
            int source = cell(from, item);
            low[at] = low[source];
            high[at] = high[source];
        }

        void holdAll(int row, int item, int one, int other) {
            int at = cell(row, item);
            int left = cell(one, item);
            int right = cell(other, item);
            low[at] = low[left] | low[right];
            high[at] = high[left] | high[right];
        }

        boolean holdsSame(int item, int row, int other) {
            int left = cell(row, item);
            int right = cell(other, item);
            return low[left] == low[right] && high[left] == high[right];
        }

        boolean holdsNothingElse(int row, int item) {
            int at = cell(row, item);
            return low[at] == lowBit(Palette.NOTHING_NUMBER) && high[at] == 0L;
        }

        boolean holdsConflict(int row, int item) {
            return sideCount(row, item) > 1;
        }

        int sideCount(int row, int item) {
            int at = cell(row, item);
            return Long.bitCount(low[at]) + Long.bitCount(high[at]);
        }

        /** Returns the value, or NOTHING, of an item that holds one side. */
        int loneValue(int row, int item) {
            int at = cell(row, item);
            long half = low[at] != 0L ? low[at] : high[at];
            // Below the lowest bit stand as many bits as its number tells.
            int within = Long.bitCount((half & -half) - 1L);
            int side = low[at] != 0L ? within : 64 + within;
            return side < palette.count ? palette.values[side] : NOTHING;
        }

        /** Returns the number of the side at an index in the order of sides, or NONE. */
        int sideAtIndex(int row, int item, int index) {
            int at = cell(row, item);
            int passed = 0;
            for (int place = 0; place < palette.count; place++) {
                int side = palette.numberInOrder(place);
                if (hasNumber(low[at], high[at], side)) {
                    if (passed == index) {
                        return side;
                    }
                    passed++;
                }
            }
            return NONE;
        }

        // An item that is not told yet holds nothing in each row, so it never counts below.

        int conflictCount(int row) {
            int found = 0;
            for (int item = 0; item < MAX_ITEMS; item++) {
                if (holdsConflict(row, item)) {
                    found++;
                }
            }
            return found;
        }

        int differenceCount(int row, int other) {
            int found = 0;
            for (int item = 0; item < MAX_ITEMS; item++) {
                if (!holdsSame(item, row, other)) {
                    found++;
                }
            }
            return found;
        }
    }

    /** The quotes by their numbers, and how they stand in a row of a table. */
    private static final class Quotes {
        static final int WHOLE = 0;
        static final int BROKEN = 1;
        static final int OPEN = 2;

        final int[] items;
        final int[] others;
        private final int[] shifts;
        int count;

        Quotes() {
            items = new int[MAX_QUOTES];
            others = new int[MAX_QUOTES];
            shifts = new int[MAX_QUOTES];
        }

        int add(int item, int other, int shift) {
            items[count] = item;
            others[count] = other;
            shifts[count] = shift;
            count++;
            return count - 1;
        }

        int stateIn(int quote, Table table, int row) {
            int item = items[quote];
            int other = others[quote];
            if (table.sideCount(row, item) > 1 || table.sideCount(row, other) > 1) {
                return OPEN;
            }
            int value = table.loneValue(row, item);
            int otherValue = table.loneValue(row, other);
            if (value == NOTHING || otherValue == NOTHING) {
                return value == otherValue ? WHOLE : BROKEN;
            }
            return value - otherValue == shifts[quote] ? WHOLE : BROKEN;
        }
    }

    /** Writes into a table what items hold by the lines of the log, at once or once more. */
    private static final class Scribe {
        private final Log log;
        private final Quotes quotes;

        Scribe(Log lines, Quotes toldQuotes) {
            log = lines;
            quotes = toldQuotes;
        }

        /** Writes the row of a commit; those of all earlier commits stand in the table. */
        void write(Table table, int commit) {
            switch (log.deed[commit]) {
                case Log.CHANGE:
                    table.copyRow(commit, log.first[commit]);
                    table.holdSide(commit, log.item[commit], log.side[commit]);
                    break;
                case Log.MERGE:
                    writeMerge(table, commit, log.first[commit], log.second[commit],
                            log.quoteCount[commit]);
                    break;
                case Log.PICK:
                    writePick(table, commit, log.first[commit], log.picked[commit]);
                    break;
                default:
                    table.emptyRow(commit);
                    break;
            }
        }

        void writeMerge(Table table, int row, int first, int second, int quoteCount) {
            int base = log.greatestShared(first, second);
            for (int item = 0; item < MAX_ITEMS; item++) {
                mergeItem(table, row, item, first, second, base);
            }
            for (int quote = 0; quote < quoteCount; quote++) {
                if (quotes.stateIn(quote, table, first) == Quotes.WHOLE
                        && quotes.stateIn(quote, table, second) == Quotes.WHOLE
                        && quotes.stateIn(quote, table, row) == Quotes.BROKEN) {
                    table.holdAll(row, quotes.items[quote], first, second);
                    table.holdAll(row, quotes.others[quote], first, second);
                }
            }
        }

        private void mergeItem(Table table, int row, int item, int first, int second, int base) {
            if (table.holdsSame(item, first, second) || table.holdsSame(item, second, base)) {
                table.holdWhat(row, item, first);
            } else if (table.holdsSame(item, first, base)) {
                table.holdWhat(row, item, second);
            } else {
                table.holdAll(row, item, first, second);
            }
        }

        private void writePick(Table table, int row, int head, int picked) {
            int before = log.first[picked];
            for (int item = 0; item < MAX_ITEMS; item++) {
                if (table.holdsSame(item, picked, before)) {
                    table.holdWhat(row, item, head);
                } else if (table.holdsSame(item, head, before)) {
                    table.holdWhat(row, item, picked);
                } else {
                    table.holdAll(row, item, head, picked);
                }
            }
        }
    }
}

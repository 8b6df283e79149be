import java.util.HashMap;
import java.util.Map;

/** A call that changes nothing, refused or only asking: the object answers afterwards as one without that call. */
final class NoChange {
    static final String NO_INDEX = "throws.IndexOutOfBoundsException";
    static final String NO_ARGUMENT = "throws.IllegalArgumentException";
    static final String NO_STATE = "throws.IllegalStateException";
    static final String NO_ELEMENT = "throws.NoSuchElementException";
    static final String NO_OPERATION = "throws.UnsupportedOperationException";

    /** Makes an object with at most 140 calls. */
    interface Maker {
        MergeAtelier make();
    }

    /** A call of an object. */
    interface Use {
        Object with(MergeAtelier x);
    }

    private static final Map<Maker, String> UNTOUCHED = new HashMap<>();

    private NoChange() {
    }

    static void due(String want, String what, Maker maker, Use call) {
        Due.answer(what, want, () -> call.with(maker.make()));
        String untouched = UNTOUCHED.computeIfAbsent(maker, key -> seen(key, x -> null));
        Due.same(what + ", and what is seen afterwards", untouched, seen(maker, call));
    }

    /** All that can be asked of objects of one kind after a call; no object is asked more than 512 times. */
    private static String seen(Maker maker, Use call) {
        StringBuilder text = new StringBuilder();
        text.append(numbersOf(after(maker, call)));
        seeParents(text, after(maker, call));
        for (int item = 0; item < 13; item++) {
            seeItem(text, after(maker, call), item);
        }
        seeWhatIsMadeThen(text, after(maker, call));
        return text.toString();
    }

    private static MergeAtelier after(Maker maker, Use call) {
        MergeAtelier x = maker.make();
        Due.ask(() -> call.with(x));
        return x;
    }

    private static void see(StringBuilder text, Due.Call call) {
        String answer = Due.ask(call);
        text.append(answer.startsWith("throws.") ? answer.substring(7, 19) : answer).append(' ');
    }

    /** What an object keeps that is no side of an item, by at most 253 calls. */
    static String numbersOf(MergeAtelier x) {
        StringBuilder text = new StringBuilder();
        int commits = x.commits();
        text.append(commits).append(" commits; heads, tags, kinds, quotes, sums: ");
        for (int number = 0; number < 13; number++) {
            int at = number;
            see(text, () -> x.head(at));
            see(text, () -> x.tagged(at));
            see(text, () -> x.kindOf(at));
            see(text, () -> x.isBroken(at, commits - 1));
        }
        for (int number = 0; number < commits; number++) {
            int commit = number;
            see(text, () -> x.broken(commit));
            see(text, () -> x.sum(commit));
        }
        return text.toString();
    }

    private static void seeParents(StringBuilder text, MergeAtelier x) {
        int commits = x.commits();
        text.append("\nparents: ");
        for (int number = 0; number < commits; number++) {
            int commit = number;
            see(text, () -> x.parentAt(commit, 0));
            see(text, () -> x.parentAt(commit, 1));
            see(text, () -> x.base(commit, commits - 1));
        }
    }

    private static void seeItem(StringBuilder text, MergeAtelier x, int item) {
        int commits = x.commits();
        text.append("\nitem ").append(item).append(": ");
        for (int number = 0; number < commits; number++) {
            int commit = number;
            see(text, () -> x.sides(commit, item));
            see(text, () -> x.sideAt(commit, item, 0));
            see(text, () -> x.blame(commit, item));
        }
        see(text, () -> x.sideByLog(commits - 1, item, 0));
        see(text, () -> x.sideByLog(commits - 1, item, 1));
    }

    private static void seeWhatIsMadeThen(StringBuilder text, MergeAtelier x) {
        text.append("\nthen: ");
        see(text, () -> x.wouldConflict(0, 1));
        see(text, () -> x.addItem('s'));
        see(text, () -> x.addBranch(0));
        see(text, () -> x.quote(0, 1, 1));
        see(text, () -> x.tag(0, 0));
        see(text, () -> x.set(0, 0, 77));
        see(text, () -> x.set(1, 1, 78));
        see(text, () -> x.merge(0, 1));
        see(text, () -> x.pick(1, 1));
        see(text, () -> x.commits());
        for (int item = 0; item < 12; item++) {
            int at = item;
            see(text, () -> x.sideByLog(x.commits() - 1, at, 0));
            see(text, () -> x.sideByLog(x.commits() - 2, at, 0));
        }
    }
}

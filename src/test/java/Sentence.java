/** A sentence of the document that names a boundary case, and the test that is its own. */
final class Sentence {
    private static String now = "";

    private Sentence() {
    }

    static void holds(String where, String words, Runnable test) {
        now = where + " \"" + words + "\"";
        int before = Due.askedCount();
        test.run();
        Due.same(now + " was looked at", "true", "" + (Due.askedCount() > before));
    }

    static void due(Object want, String what, Due.Call call) {
        Due.answer(now + ": " + what, want, call);
    }

    static void refused(String want, String what, NoChange.Maker maker, NoChange.Use call) {
        NoChange.due(want, now + ": " + what, maker, call);
    }

    /** A call that only asks. */
    static void asked(Object want, String what, NoChange.Maker maker, NoChange.Use call) {
        NoChange.due(String.valueOf(want), now + ": " + what, maker, call);
    }

    /** The sides that an item holds in a commit, no more and no less, as they are kept and by the log. */
    static void sidesDue(MergeAtelier x, int commit, int item, int... want) {
        String at = "(" + commit + ", " + item + ")";
        due(want.length, "sides" + at, () -> x.sides(commit, item));
        for (int i = 0; i < want.length; i++) {
            int index = i;
            due(want[i], "sideAt" + at + " " + i, () -> x.sideAt(commit, item, index));
            due(want[i], "sideByLog" + at + " " + i, () -> x.sideByLog(commit, item, index));
        }
        due(NoChange.NO_ELEMENT, "sideAt" + at + " beyond", () -> x.sideAt(commit, item, want.length));
        due(NoChange.NO_ELEMENT, "sideByLog" + at + " beyond", () -> x.sideByLog(commit, item, want.length));
    }
}

/** Long runs of mixed calls, each answer compared with that of the Model. */
public final class ModelTest {
    private static final int RUNS = 1500;
    private static final int CALLS = 512;
    private static final int METHODS = 31;

    /** How often each method is called, by the numbers in the switch below; those that change more often. */
    private static final int[] WEIGHTS = {
        6, 1, 3, 1, 18, 4, 8, 1, 1, 1, 1, 1, 1, 2, 2, 4, 4, 1, 1, 2, 3, 2, 14, 4, 3, 8, 4, 3, 2, 2, 1
    };

    private static long seed;
    private static int items;
    private static int values;

    private ModelTest() {
    }

    public static void main(String[] args) {
        int total = 0;
        for (int weight : WEIGHTS) {
            total += weight;
        }
        for (int run = 0; run < RUNS && Due.wrongCount() == 0; run++) {
            seed = 7919L * run + 13L;
            items = 1 + below(12);
            values = 1 + below(run % 3 == 0 ? 999 : 4);
            compareRun(run, total);
        }
        Due.end("ModelTest");
    }

    private static void compareRun(int run, int total) {
        MergeAtelier x = new MergeAtelier();
        Model model = new Model();
        boolean early = run % 4 == 0;
        for (int i = 0; i < CALLS; i++) {
            String where = "run " + run + ", call " + i + ": ";
            if (i >= items && early && model.commits() < 64 + run % 8 && i < 200) {
                setToOwnValue(where, x, model, i);
            } else {
                compareCall(where, x, model, i < items ? 0 : methodAt(below(total)));
            }
        }
    }

    /** A value of its own for each commit lets the values told be many. */
    private static void setToOwnValue(String where, MergeAtelier x, Model model, int number) {
        int item = below(items);
        int value = number % 2 == 0 ? number : -number;
        same(where + "set", () -> model.set(0, item, value), () -> x.set(0, item, value));
    }

    private static int methodAt(int point) {
        int left = point;
        for (int method = 0; method < METHODS; method++) {
            left -= WEIGHTS[method];
            if (left < 0) {
                return method;
            }
        }
        return 0;
    }

    /** A number from 0 to bound - 1, always the same ones in the same run. */
    private static int below(int bound) {
        seed = seed * 6364136223846793005L + 1442695040888963407L;
        return (int) ((seed >>> 33) % bound);
    }

    /** A number from 0 to count - 1, now and then one beyond, and seldom one far beyond. */
    private static int around(int count) {
        int chance = below(600);
        if (chance < 10) {
            return chance == 0 ? Integer.MIN_VALUE + below(2) : -1 - below(2);
        }
        if (chance < 20) {
            return chance == 10 ? Integer.MAX_VALUE - below(2) : count + below(2);
        }
        return count > 0 ? below(count) : 0;
    }

    private static int recentCommit(Model model) {
        int count = model.commits();
        return below(3) > 0 ? around(count) : Math.max(0, count - 1 - below(8));
    }

    private static int value() {
        int chance = below(80);
        if (chance < 4) {
            return new int[] {1000, -1000, 999, -999}[chance];
        }
        return below(values) - below(2) * below(values);
    }

    private static char kind() {
        return below(30) == 0 ? "xT u".charAt(below(4)) : "tcs".charAt(below(3));
    }

    private static void compareCall(String where, MergeAtelier x, Model m, int method) {
        int b = around(5);
        int d = around(5);
        int i = around(items);
        int j = around(items);
        int c = recentCommit(m);
        int e = recentCommit(m);
        int v = value();
        int n = around(3);
        int shift = below(30) == 0 ? 98 + below(4) : below(5) - 2;
        int tag = around(10);
        int q = around(4);
        char k = kind();
        switch (method) {
            case 0: same(where + "addItem", () -> m.addItem(k), () -> x.addItem(k)); break;
            case 1: same(where + "kindOf", () -> m.kindOf(i), () -> x.kindOf(i)); break;
            case 2: same(where + "addBranch", () -> m.addBranch(c), () -> x.addBranch(c)); break;
            case 3: same(where + "head", () -> m.head(b), () -> x.head(b)); break;
            case 4: same(where + "set", () -> m.set(b, i, v), () -> x.set(b, i, v)); break;
            case 5: same(where + "clear", () -> m.clear(b, i), () -> x.clear(b, i)); break;
            case 6: same(where + "settle", () -> m.settle(b, i, n), () -> x.settle(b, i, n)); break;
            case 7: same(where + "tag", () -> m.tag(tag, c), () -> x.tag(tag, c)); break;
            case 8: same(where + "tagged", () -> m.tagged(tag), () -> x.tagged(tag)); break;
            case 9: same(where + "commits", () -> m.commits(), () -> x.commits()); break;
            case 10: same(where + "parents", () -> m.parents(c), () -> x.parents(c)); break;
            case 11: same(where + "parentAt", () -> m.parentAt(c, n), () -> x.parentAt(c, n)); break;
            case 12: same(where + "isAncestor", () -> m.isAncestor(c, e), () -> x.isAncestor(c, e)); break;
            case 13: same(where + "base", () -> m.base(c, e), () -> x.base(c, e)); break;
            case 14: same(where + "sides", () -> m.sides(c, i), () -> x.sides(c, i)); break;
            case 15: same(where + "sideAt", () -> m.sideAt(c, i, n), () -> x.sideAt(c, i, n)); break;
            case 16: same(where + "sideByLog", () -> m.sideAt(c, i, n), () -> x.sideByLog(c, i, n)); break;
            case 17: same(where + "conflicts", () -> m.conflicts(c), () -> x.conflicts(c)); break;
            case 18: same(where + "firstConflict", () -> m.firstConflict(c), () -> x.firstConflict(c)); break;
            case 19: same(where + "differences", () -> m.differences(c, e), () -> x.differences(c, e)); break;
            case 20: same(where + "blame", () -> m.blame(c, i), () -> x.blame(c, i)); break;
            case 21: same(where + "blamed", () -> m.blamed(c, e), () -> x.blamed(c, e)); break;
            case 22: same(where + "merge", () -> m.merge(b, d), () -> x.merge(b, d)); break;
            case 23: same(where + "wouldConflict", () -> m.wouldConflict(b, d), () -> x.wouldConflict(b, d)); break;
            case 24: same(where + "isAlike", () -> m.isAlike(b, d), () -> x.isAlike(b, d)); break;
            case 25: same(where + "pick", () -> m.pick(b, c), () -> x.pick(b, c)); break;
            case 26: same(where + "quote", () -> m.quote(i, j, shift), () -> x.quote(i, j, shift)); break;
            case 27: same(where + "isBroken", () -> m.isBroken(q, c), () -> x.isBroken(q, c)); break;
            case 28: same(where + "broken", () -> m.broken(c), () -> x.broken(c)); break;
            case 29: same(where + "sum", () -> m.sum(c), () -> x.sum(c)); break;
            default: same(where + "conflictShare", () -> m.conflictShare(c), () -> x.conflictShare(c)); break;
        }
    }

    private static void same(String what, Due.Call want, Due.Call got) {
        Due.same(what, Due.ask(want), Due.ask(got));
    }
}

/**
 * Promises 1 and 2, a new object and begin, at their edges. Each test is of one sentence of the
 * document, which stands above it.
 */
public final class EdgesOfBeginTest {
    private static final int MIN = Integer.MIN_VALUE;
    private static final int MAX = Integer.MAX_VALUE;

    public static void main(String[] args) {
        Due due = new Due();
        newObjectHoldsFourAndEight(due);
        newObjectHasNothingCounted(due);
        policyOfTierZeroIsRefused(due);
        policyOfTierOneIsRefused(due);
        capacityOfTierZeroIsRefused(due);
        capacityOfTierOneIsRefused(due);
        leastAndGreatestAreTaken(due);
        refusedBeginKeepsDirtyPages(due);
        refusedBeginKeepsPoliciesAndCapacities(due);
        tiersAreEmptyThen(due);
        pagesGoneOutAreForgotten(due);
        marksAreForgotten(due);
        policiesAndCapacitiesAreThoseOfTheCall(due);
        sameArgumentsBeginAnew(due);
        nothingIsCountedAnyMore(due);
        dirtyPagesAreLostNotWritten(due);
        dirtyPagesAreNotWrittenLater(due);
        due.end();
    }

    /** "Both tiers RECENT, with a capacity of 4 and 8, empty": the fifth and the ninth page. */
    private static void newObjectHoldsFourAndEight(Due due) {
        TwoTierCache cache = new TwoTierCache();
        due.rows("new", cache, 0, "- | - | - | -");
        due.rows("new", cache, 1, "- | - | - | -");
        Due.read(cache, 1, 2, 3, 4);
        due.rows("page 4", cache, 0, "4 3 2 1 | - | - | -");
        Due.read(cache, 5, 6, 7, 8);
        due.rows("page 8", cache, 0, "8 7 6 5 | - | - | -");
        due.rows("page 8", cache, 1, "8 7 6 5 4 3 2 1 | - | - | -");
        Due.read(cache, 9);
        due.rows("page 9", cache, 1, "9 8 7 6 5 4 3 2 | - | - | -");
        due.is("goal(0)", cache.goal(0), TwoTierCache.NONE);
        due.is("goal(1)", cache.goal(1), TwoTierCache.NONE);
        Due.read(cache, 6);
        due.rows("page 6 again", cache, 0, "6 9 8 7 | - | - | -");
    }

    /** "nothing counted" */
    private static void newObjectHasNothingCounted(Due due) {
        TwoTierCache cache = new TwoTierCache();
        due.counts(cache, 0, 0, 0, 0);
        due.counts(cache, 1, 0, 0, 0);
        due.is("reads()", cache.reads(), 0);
        due.is("writes()", cache.writes(), 0);
    }

    /** "false when a policy is not 0 .. 3": that of tier 0. */
    private static void policyOfTierZeroIsRefused(Due due) {
        for (int policy : new int[] {-1, 4, 5, -4, MIN, MAX}) {
            TwoTierCache cache = new TwoTierCache();
            due.is("begin(" + policy + ", 1, 0, 1)", cache.begin(policy, 1, 0, 1), false);
            due.is("begin(" + policy + ", 16, 3, 16)", cache.begin(policy, 16, 3, 16), false);
        }
    }

    /** "false when a policy is not 0 .. 3": that of tier 1. */
    private static void policyOfTierOneIsRefused(Due due) {
        for (int policy : new int[] {-1, 4, 5, -4, MIN, MAX}) {
            TwoTierCache cache = new TwoTierCache();
            due.is("begin(0, 1, " + policy + ", 1)", cache.begin(0, 1, policy, 1), false);
            due.is("begin(3, 16, " + policy + ", 16)", cache.begin(3, 16, policy, 16), false);
        }
    }

    /** "or a capacity not 1 .. 16": that of tier 0. */
    private static void capacityOfTierZeroIsRefused(Due due) {
        for (int capacity : new int[] {0, 17, -1, 18, 32, -16, MIN, MAX}) {
            TwoTierCache cache = new TwoTierCache();
            due.is("begin(0, " + capacity + ", 0, 1)", cache.begin(0, capacity, 0, 1), false);
            due.is("begin(3, " + capacity + ", 3, 16)", cache.begin(3, capacity, 3, 16), false);
        }
    }

    /** "or a capacity not 1 .. 16": that of tier 1. */
    private static void capacityOfTierOneIsRefused(Due due) {
        for (int capacity : new int[] {0, 17, -1, 18, 32, -16, MIN, MAX}) {
            TwoTierCache cache = new TwoTierCache();
            due.is("begin(0, 1, 0, " + capacity + ")", cache.begin(0, 1, 0, capacity), false);
            due.is("begin(3, 16, 3, " + capacity + ")", cache.begin(3, 16, 3, capacity), false);
        }
    }

    /** "Answers true": for policies 0 and 3 and capacities 1 and 16, each with each. */
    private static void leastAndGreatestAreTaken(Due due) {
        TwoTierCache cache = new TwoTierCache();
        for (int policy0 = 0; policy0 < 4; policy0++) {
            for (int policy1 = 0; policy1 < 4; policy1++) {
                due.is("begin(.., 1, .., 1)", cache.begin(policy0, 1, policy1, 1), true);
                due.is("begin(.., 1, .., 16)", cache.begin(policy0, 1, policy1, 16), true);
                due.is("begin(.., 16, .., 1)", cache.begin(policy0, 16, policy1, 1), true);
                due.is("begin(.., 16, .., 16)", cache.begin(policy0, 16, policy1, 16), true);
            }
        }
    }

    /** "A call that is refused changes nothing.": "pages that are dirty are lost", but not then. */
    private static void refusedBeginKeepsDirtyPages(Due due) {
        TwoTierCache cache = new TwoTierCache();
        cache.begin(0, 1, 0, 2);
        Due.write(cache, 1, 2);
        due.is("begin", cache.begin(0, 1, 0, 17), false);
        due.is("dirty(0, 2)", cache.dirty(0, 2), true);
        due.is("dirty(1, 1)", cache.dirty(1, 1), true);
        due.is("flush()", cache.flush(), 2);
        due.is("writes()", cache.writes(), 2);
    }

    /** "A call that is refused changes nothing.": the first tier's arguments may be right ones. */
    private static void refusedBeginKeepsPoliciesAndCapacities(Due due) {
        TwoTierCache cache = new TwoTierCache();
        due.is("begin(1, 1, 3, 0)", cache.begin(1, 1, 3, 0), false);
        due.is("begin(1, 1, 4, 2)", cache.begin(1, 1, 4, 2), false);
        due.is("begin(1, 0, 3, 2)", cache.begin(1, 0, 3, 2), false);
        due.is("begin(4, 1, 3, 2)", cache.begin(4, 1, 3, 2), false);
        due.is("goal(1)", cache.goal(1), TwoTierCache.NONE);
        Due.read(cache, 1, 2, 3, 4, 1, 5);
        due.rows("after six calls", cache, 0, "5 1 4 3 | - | - | -");
        due.rows("after six calls", cache, 1, "5 4 3 2 1 | - | - | -");
    }

    /** "Both tiers are empty then": all four rows, and nothing is resident or dirty. */
    private static void tiersAreEmptyThen(Due due) {
        for (int policy = 0; policy < 4; policy++) {
            TwoTierCache cache = new TwoTierCache();
            cache.begin(policy, 2, policy, 2);
            Due.write(cache, 1, 1, 2, 3, 2, 1, 4);
            due.is("begin", cache.begin(policy, 2, policy, 2), true);
            for (int tier = 0; tier < 2; tier++) {
                due.rows("begin", cache, tier, "- | - | - | -");
                due.residents(cache, tier);
                due.dirtyPages(cache, tier);
            }
        }
    }

    /** "Both tiers are empty then": a page that was gone out comes in as one in no row. */
    private static void pagesGoneOutAreForgotten(Due due) {
        TwoTierCache cache = new TwoTierCache();
        cache.begin(2, 2, 3, 2);
        Due.read(cache, 1, 2, 3);
        due.rows("before", cache, 0, "3 2 | 1 | - | -");
        cache.begin(2, 2, 3, 2);
        due.is("access(1)", cache.access(1, false), 2);
        due.rows("access(1)", cache, 0, "1 | - | - | -");

        cache.begin(3, 2, 0, 16);
        Due.read(cache, 1, 1, 2, 3, 2);
        due.balanced("before", cache, 0, "1: 3 | 2 | - | 1");
        cache.begin(3, 2, 0, 16);
        due.is("access(1)", cache.access(1, false), 2);
        due.balanced("access(1)", cache, 0, "0: 1 | - | - | -");
    }

    /** "Both tiers are empty then": a page that was marked comes in not marked. */
    private static void marksAreForgotten(Due due) {
        TwoTierCache cache = new TwoTierCache();
        cache.begin(1, 2, 1, 2);
        Due.read(cache, 1, 1);
        due.is("marked(0, 1)", cache.marked(0, 1), true);
        cache.begin(1, 2, 1, 2);
        due.is("marked(0, 1)", cache.marked(0, 1), false);
        Due.read(cache, 1, 2, 3);
        due.rows("access(3)", cache, 0, "2 3 | - | - | -");
        due.markedPages(cache, 0);
    }

    /** "with these policies and capacities": each tier has its own. */
    private static void policiesAndCapacitiesAreThoseOfTheCall(Due due) {
        TwoTierCache cache = new TwoTierCache();
        cache.begin(1, 2, 2, 3);
        Due.read(cache, 1, 2, 1, 3, 4);
        due.rows("CLOCK of 2", cache, 0, "3 4 | - | - | -");
        due.rows("QUEUES of 3", cache, 1, "4 3 2 | 1 | - | -");
        cache.begin(3, 3, 0, 1);
        Due.read(cache, 1, 1, 2, 3, 4);
        due.balanced("BALANCED of 3", cache, 0, "0: 4 3 | 1 | 2 | -");
        due.rows("RECENT of 1", cache, 1, "4 | - | - | -");
        due.is("goal(1)", cache.goal(1), TwoTierCache.NONE);
        cache.begin(0, 1, 3, 16);
        Due.read(cache, 1, 2);
        due.rows("RECENT of 1", cache, 0, "2 | - | - | -");
        due.balanced("BALANCED of 16", cache, 1, "0: 2 1 | - | - | -");
        due.is("goal(0)", cache.goal(0), TwoTierCache.NONE);
    }

    /** "Both tiers are empty then": by a begin that asks for what there is already, too. */
    private static void sameArgumentsBeginAnew(Due due) {
        TwoTierCache cache = new TwoTierCache();
        Due.write(cache, 1, 2);
        due.is("begin(0, 4, 0, 8)", cache.begin(0, 4, 0, 8), true);
        due.rows("begin", cache, 0, "- | - | - | -");
        due.rows("begin", cache, 1, "- | - | - | -");
        due.is("begin(0, 4, 0, 8)", cache.begin(0, 4, 0, 8), true);
        due.is("access(1)", cache.access(1, false), 2);
    }

    /** "nothing is counted any more, reads and writes too": each was more than 0 before. */
    private static void nothingIsCountedAnyMore(Due due) {
        TwoTierCache cache = new TwoTierCache();
        cache.begin(0, 1, 0, 1);
        Due.write(cache, 1, 1, 2, 3);
        cache.flush();
        due.counts(cache, 0, 1, 3, 2);
        due.counts(cache, 1, 0, 6, 2);
        due.is("reads()", cache.reads(), 3);
        due.is("writes()", cache.writes(), 3);
        due.is("begin", cache.begin(1, 2, 1, 2), true);
        due.counts(cache, 0, 0, 0, 0);
        due.counts(cache, 1, 0, 0, 0);
        due.is("reads()", cache.reads(), 0);
        due.is("writes()", cache.writes(), 0);
    }

    /** "(pages that are dirty are lost, not written)": of both tiers. */
    private static void dirtyPagesAreLostNotWritten(Due due) {
        TwoTierCache cache = new TwoTierCache();
        cache.begin(0, 1, 0, 4);
        Due.write(cache, 1, 2);
        due.is("dirty(0, 2)", cache.dirty(0, 2), true);
        due.is("dirty(1, 1)", cache.dirty(1, 1), true);
        due.is("begin", cache.begin(0, 1, 0, 4), true);
        due.is("writes()", cache.writes(), 0);
        due.is("dirty(0, 2)", cache.dirty(0, 2), false);
        due.is("dirty(1, 1)", cache.dirty(1, 1), false);
        due.is("flush()", cache.flush(), 0);
        due.is("writes()", cache.writes(), 0);
    }

    /** "(pages that are dirty are lost, not written)": they come in clean, and leave so. */
    private static void dirtyPagesAreNotWrittenLater(Due due) {
        TwoTierCache cache = new TwoTierCache();
        cache.begin(0, 1, 0, 1);
        Due.write(cache, 1, 2);
        cache.begin(0, 1, 0, 1);
        Due.read(cache, 1, 2, 1, 2);
        due.counts(cache, 0, 0, 4, 0);
        due.counts(cache, 1, 0, 4, 0);
        due.is("flush()", cache.flush(), 0);
        due.is("writes()", cache.writes(), 0);
    }
}

/** Promise 2: begin empties both tiers and counts anew, or is refused and changes nothing. */
public final class BeginTest {
    private static final int MIN = Integer.MIN_VALUE;
    private static final int MAX = Integer.MAX_VALUE;

    public static void main(String[] args) {
        Due due = new Due();
        takesEveryPolicyAndCapacity(due);
        emptiesAll(due);
        losesDirtyPages(due);
        forgetsMarksAndGoals(due);
        refusesAndChangesNothing(due);
        due.end();
    }

    private static void takesEveryPolicyAndCapacity(Due due) {
        for (int policy = 0; policy < 4; policy++) {
            for (int capacity = 1; capacity <= 16; capacity++) {
                TwoTierCache cache = new TwoTierCache();
                due.is("begin upper", cache.begin(policy, capacity, 0, 1), true);
                holdsAtMost(due, cache, 0, capacity);
                due.is("begin lower", cache.begin(0, 1, policy, capacity), true);
                holdsAtMost(due, cache, 1, capacity);
                due.is("goal(1)", cache.goal(1), policy == 3 ? 0 : TwoTierCache.NONE);
            }
        }
    }

    private static void holdsAtMost(Due due, TwoTierCache cache, int tier, int capacity) {
        for (int page = 0; page < 40; page++) {
            cache.access(page, false);
        }
        int resident = 0;
        for (int page = 0; page < 64; page++) {
            resident += cache.resident(tier, page) ? 1 : 0;
        }
        due.is("resident pages", resident, capacity);
    }

    private static void emptiesAll(Due due) {
        for (int policy = 0; policy < 4; policy++) {
            TwoTierCache cache = new TwoTierCache();
            cache.begin(policy, 3, policy, 5);
            for (int i = 0; i < 40; i++) {
                cache.access(i * i % 11, i % 3 == 0);
            }
            due.is("begin", cache.begin(policy, 3, policy, 5), true);
            for (int tier = 0; tier < 2; tier++) {
                due.counts(cache, tier, 0, 0, 0);
                due.residents(cache, tier);
                due.dirtyPages(cache, tier);
                for (int row = 0; row < 4; row++) {
                    due.row(cache, tier, row);
                }
            }
            due.is("reads()", cache.reads(), 0);
            due.is("writes()", cache.writes(), 0);
            due.is("access(1)", cache.access(1, false), 2);
        }
    }

    private static void losesDirtyPages(Due due) {
        TwoTierCache cache = new TwoTierCache();
        cache.begin(0, 1, 0, 4);
        Due.write(cache, 1, 2);
        due.dirtyPages(cache, 0, 2);
        due.dirtyPages(cache, 1, 1);
        due.is("begin", cache.begin(0, 1, 0, 4), true);
        due.is("flush()", cache.flush(), 0);
        Due.read(cache, 1, 2, 3, 4, 5, 6);
        due.is("writes()", cache.writes(), 0);
    }

    private static void forgetsMarksAndGoals(Due due) {
        TwoTierCache cache = new TwoTierCache();
        cache.begin(1, 2, 1, 2);
        Due.read(cache, 1, 1);
        due.markedPages(cache, 0, 1);
        due.is("begin", cache.begin(1, 2, 1, 2), true);
        due.markedPages(cache, 0);
        Due.read(cache, 1);
        due.markedPages(cache, 0);

        cache.begin(3, 2, 0, 16);
        Due.read(cache, 1, 2, 3, 3, 4, 2);
        due.is("goal(0)", cache.goal(0), 1);
        due.is("begin", cache.begin(3, 2, 0, 16), true);
        due.is("goal(0)", cache.goal(0), 0);
    }

    private static void refusesAndChangesNothing(Due due) {
        TwoTierCache cache = new TwoTierCache();
        cache.begin(3, 2, 1, 4);
        Due.write(cache, 1, 2, 3, 3, 4);
        Due.read(cache, 2);
        int[] wrongPolicies = {-1, 4, MIN, MAX};
        int[] wrongCapacities = {0, 17, -1, MIN, MAX};
        for (int policy : wrongPolicies) {
            due.is("begin", cache.begin(policy, 1, 0, 1), false);
            due.is("begin", cache.begin(0, 1, policy, 1), false);
        }
        for (int capacity : wrongCapacities) {
            due.is("begin", cache.begin(0, capacity, 0, 1), false);
            due.is("begin", cache.begin(0, 1, 0, capacity), false);
        }
        // Pages 1, 2 and 3 went down as victims and were hits in tier 1, and so was page 2 when it
        // came back.
        due.row(cache, 0, 0, 4);
        due.row(cache, 0, 1, 2);
        due.row(cache, 0, 3, 3);
        due.is("goal(0)", cache.goal(0), 1);
        due.dirtyPages(cache, 0, 4);
        due.dirtyPages(cache, 1, 1, 2, 3);
        due.row(cache, 1, 0, 1, 2, 3, 4);
        due.markedPages(cache, 1, 1, 2, 3);
        due.counts(cache, 0, 1, 5, 3);
        due.counts(cache, 1, 4, 4, 0);
        due.is("reads()", cache.reads(), 4);
        due.is("writes()", cache.writes(), 0);
    }
}

/** Promises 10, 11 and 12: count, reads and writes. */
public final class CountsTest {
    public static void main(String[] args) {
        Due due = new Due();
        countsEveryAsk(due);
        countsTheAsksOfFlush(due);
        countsDirtyVictimsOnly(due);
        readsAndWritesAreOfTheMemory(due);
        noSuchTierOrCount(due);
        due.end();
    }

    private static void countsEveryAsk(Due due) {
        TwoTierCache cache = new TwoTierCache();
        cache.begin(0, 1, 0, 1);
        Due.write(cache, 1);
        due.counts(cache, 0, 0, 1, 0);
        due.counts(cache, 1, 0, 1, 0);
        Due.read(cache, 1);
        due.counts(cache, 0, 1, 1, 0);
        due.counts(cache, 1, 0, 1, 0);
        // Tier 1 misses page 2 for reading and page 1 for writing.
        Due.read(cache, 2);
        due.counts(cache, 0, 1, 2, 1);
        due.counts(cache, 1, 0, 3, 0);
        // A hit in tier 1 for reading; no victim of tier 0 that is dirty.
        Due.write(cache, 1);
        due.counts(cache, 0, 1, 3, 1);
        due.counts(cache, 1, 1, 3, 0);
        // Page 3 puts the dirty page 1 out of tier 1, then page 1 comes down from tier 0.
        Due.read(cache, 3);
        due.counts(cache, 0, 1, 4, 2);
        due.counts(cache, 1, 1, 5, 1);
        due.is("reads()", cache.reads(), 3);
        due.is("writes()", cache.writes(), 1);
    }

    private static void countsTheAsksOfFlush(Due due) {
        TwoTierCache cache = new TwoTierCache();
        cache.begin(0, 2, 0, 1);
        Due.write(cache, 1, 2);
        due.counts(cache, 1, 0, 2, 0);
        // Page 1 is a miss, then page 2 is one, too, with page 1 as dirty victim.
        due.is("flush()", cache.flush(), 2);
        due.counts(cache, 0, 0, 2, 0);
        due.counts(cache, 1, 0, 4, 1);
        Due.write(cache, 2);
        due.is("flush()", cache.flush(), 1);
        due.counts(cache, 0, 1, 2, 0);
        due.counts(cache, 1, 1, 4, 1);
        due.is("reads()", cache.reads(), 2);
        due.is("writes()", cache.writes(), 3);
    }

    private static void countsDirtyVictimsOnly(Due due) {
        TwoTierCache cache = new TwoTierCache();
        for (int policy = 0; policy < 4; policy++) {
            cache.begin(policy, 1, policy, 1);
            Due.read(cache, 1, 2, 3, 4);
            due.is("count(0, 2)", cache.count(0, 2), 0);
            due.is("count(1, 2)", cache.count(1, 2), 0);
            Due.write(cache, 4);
            Due.read(cache, 5, 6);
            due.is("count(0, 2)", cache.count(0, 2), 1);
            due.is("count(1, 2)", cache.count(1, 2), 1);
            due.is("writes()", cache.writes(), 1);
        }
    }

    private static void readsAndWritesAreOfTheMemory(Due due) {
        TwoTierCache cache = new TwoTierCache();
        cache.begin(0, 1, 0, 3);
        Due.read(cache, 1, 2, 1, 2);
        due.is("reads()", cache.reads(), 2);
        Due.write(cache, 3, 1);
        due.is("reads()", cache.reads(), 3);
        due.is("writes()", cache.writes(), 0);
        Due.read(cache, 4, 5, 6, 7);
        due.is("reads()", cache.reads(), 7);
        due.is("writes()", cache.writes(), 2);
        due.is("flush()", cache.flush(), 0);
        due.is("writes()", cache.writes(), 2);
    }

    private static void noSuchTierOrCount(Due due) {
        TwoTierCache cache = new TwoTierCache();
        Due.write(cache, 1, 2, 3, 4, 5, 5);
        int[] none = {-1, 3, 4, Integer.MIN_VALUE, Integer.MAX_VALUE};
        for (int what : none) {
            due.is("count(0, " + what + ")", cache.count(0, what), TwoTierCache.NONE);
            due.is("count(1, " + what + ")", cache.count(1, what), TwoTierCache.NONE);
        }
        int[] noTiers = {-1, 2, Integer.MIN_VALUE, Integer.MAX_VALUE};
        for (int tier : noTiers) {
            for (int what = -1; what < 4; what++) {
                due.is("count(" + tier + ", " + what + ")", cache.count(tier, what),
                        TwoTierCache.NONE);
            }
        }
        due.counts(cache, 0, 1, 5, 1);
    }
}

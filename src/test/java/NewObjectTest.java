/** Promise 1: both tiers RECENT, of 4 and 8, empty; nothing counted. */
public final class NewObjectTest {
    public static void main(String[] args) {
        Due due = new Due();
        isEmpty(due);
        isRecentOfFourAndEight(due);
        due.end();
    }

    private static void isEmpty(Due due) {
        TwoTierCache cache = new TwoTierCache();
        for (int tier = 0; tier < 2; tier++) {
            due.counts(cache, tier, 0, 0, 0);
            due.residents(cache, tier);
            due.dirtyPages(cache, tier);
            due.markedPages(cache, tier);
            due.is("goal", cache.goal(tier), TwoTierCache.NONE);
            for (int row = 0; row < 4; row++) {
                due.row(cache, tier, row);
            }
        }
        due.is("reads()", cache.reads(), 0);
        due.is("writes()", cache.writes(), 0);
        due.is("flush()", cache.flush(), 0);
    }

    private static void isRecentOfFourAndEight(Due due) {
        TwoTierCache cache = new TwoTierCache();
        Due.read(cache, 1, 2, 3, 4);
        due.row(cache, 0, 0, 4, 3, 2, 1);
        Due.read(cache, 1);
        due.row(cache, 0, 0, 1, 4, 3, 2);
        Due.read(cache, 5, 6, 7, 8);
        due.row(cache, 0, 0, 8, 7, 6, 5);
        due.row(cache, 1, 0, 8, 7, 6, 5, 4, 3, 2, 1);
        due.is("access(1)", cache.access(1, false), 1);
        due.row(cache, 1, 0, 1, 8, 7, 6, 5, 4, 3, 2);
        due.is("access(9)", cache.access(9, false), 2);
        due.row(cache, 1, 0, 9, 1, 8, 7, 6, 5, 4, 3);
        due.row(cache, 0, 0, 9, 1, 8, 7);
    }
}

/** Promise 3, and the Terms of asking: what access answers, and in which order it asks. */
public final class AccessTest {
    public static void main(String[] args) {
        Due due = new Due();
        answersWhereThePageWas(due);
        answersForThePageNotForTheVictim(due);
        refusesWhatIsNoPage(due);
        takesTheFirstAndTheLastPage(due);
        bringsInBeforeTheVictimGoesDown(due);
        bringsInForWritingToo(due);
        readsNothingForAVictim(due);
        writesAreDirtyInTierZeroOnly(due);
        cleanVictimsDoNotGoDown(due);
        dirtyVictimsOfTierOneGoToTheMemory(due);
        due.end();
    }

    private static void answersWhereThePageWas(Due due) {
        TwoTierCache cache = new TwoTierCache();
        cache.begin(0, 1, 0, 2);
        due.is("access(1)", cache.access(1, false), 2);
        due.is("access(1)", cache.access(1, false), 0);
        due.is("access(1, true)", cache.access(1, true), 0);
        due.is("access(2)", cache.access(2, false), 2);
        due.is("access(1)", cache.access(1, false), 1);
        due.is("access(2, true)", cache.access(2, true), 1);
        due.is("access(3, true)", cache.access(3, true), 2);
    }

    private static void answersForThePageNotForTheVictim(Due due) {
        TwoTierCache cache = new TwoTierCache();
        cache.begin(0, 1, 0, 2);
        Due.write(cache, 1);
        // Page 1 is a hit in tier 1, but page 2 is a miss.
        due.is("access(2)", cache.access(2, false), 2);
        cache.begin(0, 1, 0, 1);
        Due.write(cache, 1, 2);
        due.residents(cache, 1, 1);
        // Page 1 is a hit in tier 1, but the victim 2 is a miss.
        due.is("access(1)", cache.access(1, false), 1);
        due.residents(cache, 1, 2);
    }

    private static void refusesWhatIsNoPage(Due due) {
        TwoTierCache cache = new TwoTierCache();
        Due.write(cache, 1);
        int[] none = {-1, 64, 65, 128, Integer.MIN_VALUE, Integer.MAX_VALUE};
        for (int page : none) {
            due.is("access(" + page + ", false)", cache.access(page, false), TwoTierCache.NONE);
            due.is("access(" + page + ", true)", cache.access(page, true), TwoTierCache.NONE);
        }
        due.row(cache, 0, 0, 1);
        due.row(cache, 1, 0, 1);
        due.counts(cache, 0, 0, 1, 0);
        due.counts(cache, 1, 0, 1, 0);
        due.is("reads()", cache.reads(), 1);
        due.dirtyPages(cache, 0, 1);
    }

    private static void takesTheFirstAndTheLastPage(Due due) {
        TwoTierCache cache = new TwoTierCache();
        for (int page = 0; page < 64; page++) {
            due.is("access(" + page + ")", cache.access(page, true), 2);
        }
        due.row(cache, 0, 0, 63, 62, 61, 60);
        due.is("access(0)", cache.access(0, true), 2);
        due.is("access(63)", cache.access(63, true), 0);
        due.dirtyPages(cache, 0, 0, 63, 62, 61);
    }

    private static void bringsInBeforeTheVictimGoesDown(Due due) {
        TwoTierCache cache = new TwoTierCache();
        cache.begin(0, 1, 0, 2);
        Due.write(cache, 1);
        Due.read(cache, 2);
        due.row(cache, 1, 0, 1, 2);
        due.dirtyPages(cache, 1, 1);
        due.counts(cache, 1, 1, 2, 0);

        cache.begin(0, 1, 0, 1);
        Due.write(cache, 1);
        due.is("access(2)", cache.access(2, false), 2);
        due.row(cache, 1, 0, 1);
        due.counts(cache, 1, 0, 3, 0);
        due.is("reads()", cache.reads(), 2);
        due.is("writes()", cache.writes(), 0);
    }

    private static void bringsInForWritingToo(Due due) {
        TwoTierCache cache = new TwoTierCache();
        due.is("access(7, true)", cache.access(7, true), 2);
        due.is("reads()", cache.reads(), 1);
        due.row(cache, 1, 0, 7);
        due.counts(cache, 1, 0, 1, 0);
    }

    private static void readsNothingForAVictim(Due due) {
        TwoTierCache cache = new TwoTierCache();
        cache.begin(0, 1, 0, 1);
        Due.write(cache, 1, 2, 3);
        // Tier 1 missed for 1, 2, 3 and for the victims 1 and 2.
        due.counts(cache, 1, 0, 5, 1);
        due.is("reads()", cache.reads(), 3);
        due.is("writes()", cache.writes(), 1);
        due.dirtyPages(cache, 1, 2);
    }

    private static void writesAreDirtyInTierZeroOnly(Due due) {
        TwoTierCache cache = new TwoTierCache();
        Due.write(cache, 5);
        due.dirtyPages(cache, 0, 5);
        due.dirtyPages(cache, 1);
        Due.read(cache, 6);
        due.dirtyPages(cache, 0, 5);
        Due.write(cache, 6);
        due.dirtyPages(cache, 0, 5, 6);
        Due.read(cache, 5);
        due.dirtyPages(cache, 0, 5, 6);
        due.dirtyPages(cache, 1);
    }

    private static void cleanVictimsDoNotGoDown(Due due) {
        TwoTierCache cache = new TwoTierCache();
        cache.begin(0, 1, 0, 4);
        Due.read(cache, 1, 2, 3);
        due.row(cache, 1, 0, 3, 2, 1);
        due.counts(cache, 0, 0, 3, 0);
        due.counts(cache, 1, 0, 3, 0);
        Due.write(cache, 3);
        Due.read(cache, 4);
        due.row(cache, 1, 0, 3, 4, 2, 1);
        // Page 3 comes back clean in tier 0, while it is dirty in tier 1.
        Due.read(cache, 3, 1);
        due.row(cache, 1, 0, 1, 3, 4, 2);
        due.dirtyPages(cache, 0);
        due.dirtyPages(cache, 1, 3);
        due.counts(cache, 0, 1, 6, 1);
    }

    private static void dirtyVictimsOfTierOneGoToTheMemory(Due due) {
        TwoTierCache cache = new TwoTierCache();
        cache.begin(0, 1, 0, 2);
        Due.write(cache, 1);
        Due.read(cache, 2, 3);
        due.row(cache, 1, 0, 3, 1);
        due.is("writes()", cache.writes(), 0);
        Due.read(cache, 4);
        due.row(cache, 1, 0, 4, 3);
        due.is("writes()", cache.writes(), 1);
        due.counts(cache, 1, 1, 4, 1);
        due.dirtyPages(cache, 1);
        // It comes back clean.
        Due.read(cache, 1, 5, 6);
        due.is("writes()", cache.writes(), 1);
    }
}

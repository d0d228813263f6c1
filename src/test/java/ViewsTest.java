/** Promises 5, 6 and 8: resident, dirty and row. */
public final class ViewsTest {
    private static final int[] NO_TIERS = {-1, 2, 3, Integer.MIN_VALUE, Integer.MAX_VALUE};
    private static final int[] NO_PAGES =
            {-1, -63, -64, 64, 65, 127, 128, Integer.MIN_VALUE, Integer.MAX_VALUE};

    public static void main(String[] args) {
        Due due = new Due();
        residentIsNotGoneOut(due);
        residentAndDirtyTellTiersApart(due);
        noSuchPageOrTier(due);
        rowTellsAllRows(due);
        noSuchRowOrPlace(due);
        looksChangeNothing(due);
        due.end();
    }

    private static void residentIsNotGoneOut(Due due) {
        TwoTierCache cache = new TwoTierCache();
        cache.begin(2, 2, 3, 2);
        Due.read(cache, 1, 2, 3);
        due.row(cache, 0, 1, 1);
        due.residents(cache, 0, 2, 3);
        Due.read(cache, 1);
        due.row(cache, 0, 2, 1);
        due.residents(cache, 0, 1, 3);

        cache.begin(3, 4, 0, 16);
        Due.read(cache, 1, 2, 3, 4, 1, 2, 3, 5, 4, 6, 7);
        due.row(cache, 0, 2, 5);
        due.row(cache, 0, 3, 2, 1);
        due.residents(cache, 0, 3, 4, 6, 7);
    }

    private static void residentAndDirtyTellTiersApart(Due due) {
        TwoTierCache cache = new TwoTierCache();
        cache.begin(0, 1, 0, 2);
        Due.write(cache, 0);
        Due.read(cache, 63);
        due.residents(cache, 0, 63);
        due.residents(cache, 1, 0, 63);
        due.dirtyPages(cache, 0);
        due.dirtyPages(cache, 1, 0);
        Due.write(cache, 63);
        due.dirtyPages(cache, 0, 63);
        due.dirtyPages(cache, 1, 0);
    }

    private static void noSuchPageOrTier(Due due) {
        TwoTierCache cache = new TwoTierCache();
        cache.begin(0, 16, 0, 16);
        Due.write(cache, 0, 1, 63);
        cache.flush();
        Due.write(cache, 0, 1, 63);
        for (int page : NO_PAGES) {
            due.is("resident(0, " + page + ")", cache.resident(0, page), false);
            due.is("resident(1, " + page + ")", cache.resident(1, page), false);
            due.is("dirty(0, " + page + ")", cache.dirty(0, page), false);
            due.is("dirty(1, " + page + ")", cache.dirty(1, page), false);
        }
        for (int tier : NO_TIERS) {
            due.is("resident(" + tier + ", 1)", cache.resident(tier, 1), false);
            due.is("dirty(" + tier + ", 1)", cache.dirty(tier, 1), false);
        }
    }

    private static void rowTellsAllRows(Due due) {
        TwoTierCache cache = new TwoTierCache();
        cache.begin(3, 4, 2, 2);
        Due.read(cache, 1, 2, 3, 4, 1, 2, 3, 5, 4, 6, 7);
        due.row(cache, 0, 0, 7, 6);
        due.row(cache, 0, 1, 4, 3);
        due.row(cache, 0, 2, 5);
        due.row(cache, 0, 3, 2, 1);
        // Tier 1 was asked for 1, 2, 3, 4, 5, 4, 6 and 7.
        due.row(cache, 1, 0, 7, 6);
        due.row(cache, 1, 1, 5);
        due.row(cache, 1, 2);
        Due.read(cache, 5);
        due.row(cache, 1, 0, 7);
        due.row(cache, 1, 1, 6);
        due.row(cache, 1, 2, 5);
        due.row(cache, 1, 3);
    }

    private static void noSuchRowOrPlace(Due due) {
        TwoTierCache cache = new TwoTierCache();
        cache.begin(0, 16, 0, 16);
        for (int page = 0; page < 16; page++) {
            cache.access(page, false);
        }
        int[] noPlaces = {-1, 16, 17, 18, 63, 64, Integer.MIN_VALUE, Integer.MAX_VALUE};
        for (int i : noPlaces) {
            due.is("row(0, 0, " + i + ")", cache.row(0, 0, i), TwoTierCache.NONE);
        }
        int[] noRows = {-1, 4, 5, Integer.MIN_VALUE, Integer.MAX_VALUE};
        for (int row : noRows) {
            due.is("row(0, " + row + ", 0)", cache.row(0, row, 0), TwoTierCache.NONE);
        }
        for (int tier : NO_TIERS) {
            due.is("row(" + tier + ", 0, 0)", cache.row(tier, 0, 0), TwoTierCache.NONE);
        }
        due.is("row(0, 0, 0)", cache.row(0, 0, 0), 15);
        due.is("row(0, 0, 15)", cache.row(0, 0, 15), 0);
    }

    private static void looksChangeNothing(Due due) {
        TwoTierCache cache = new TwoTierCache();
        cache.begin(1, 2, 0, 2);
        Due.write(cache, 1, 2);
        due.residents(cache, 0, 1, 2);
        due.dirtyPages(cache, 0, 1, 2);
        due.markedPages(cache, 0);
        for (int i = 0; i < 3; i++) {
            due.is("resident(0, 1)", cache.resident(0, 1), true);
            due.is("dirty(0, 1)", cache.dirty(0, 1), true);
            due.is("marked(0, 1)", cache.marked(0, 1), false);
            due.row(cache, 0, 0, 1, 2);
            due.row(cache, 1, 0, 2, 1);
            due.counts(cache, 0, 0, 2, 0);
            due.counts(cache, 1, 0, 2, 0);
            due.is("goal(0)", cache.goal(0), TwoTierCache.NONE);
            due.is("reads()", cache.reads(), 2);
            due.is("writes()", cache.writes(), 0);
        }
    }
}

/** The Terms of policy 2, QUEUES. */
public final class QueuesTest {
    public static void main(String[] args) {
        Due due = new Due();
        runsOfFour(due);
        runsOfOne(due);
        roundsAQuarterAndAHalfDown(due);
        makesNoRoomWithoutNeed(due);
        due.end();
    }

    private static void rows(Due due, TwoTierCache cache, int[] in, int[] out, int[] main) {
        due.row(cache, 0, 0, in);
        due.row(cache, 0, 1, out);
        due.row(cache, 0, 2, main);
        due.row(cache, 0, 3);
    }

    private static int[] pages(int... pages) {
        return pages;
    }

    private static void runsOfFour(Due due) {
        TwoTierCache cache = new TwoTierCache();
        cache.begin(2, 4, 0, 16);
        Due.read(cache, 1, 2, 3, 4);
        rows(due, cache, pages(4, 3, 2, 1), pages(), pages());
        due.is("access(1)", cache.access(1, false), 0);
        rows(due, cache, pages(4, 3, 2, 1), pages(), pages());
        Due.read(cache, 5);
        rows(due, cache, pages(5, 4, 3, 2), pages(1), pages());
        due.residents(cache, 0, 2, 3, 4, 5);
        Due.read(cache, 6);
        rows(due, cache, pages(6, 5, 4, 3), pages(2, 1), pages());
        Due.read(cache, 7);
        rows(due, cache, pages(7, 6, 5, 4), pages(3, 2), pages());
        // Pages of row 1 are gone: tier 1 is asked for them.
        due.is("access(2)", cache.access(2, false), 1);
        rows(due, cache, pages(7, 6, 5), pages(4, 3), pages(2));
        // Page 4 leaves row 1 before page 5 comes into it, so page 3 keeps its place.
        Due.read(cache, 4);
        rows(due, cache, pages(7, 6), pages(5, 3), pages(4, 2));
        Due.read(cache, 3);
        rows(due, cache, pages(7), pages(6, 5), pages(3, 4, 2));
        // Row 0 has no more than a quarter: the tail of row 2 goes, and is in no row.
        Due.read(cache, 5);
        rows(due, cache, pages(7), pages(6), pages(5, 3, 4));
        Due.read(cache, 2);
        rows(due, cache, pages(2, 7), pages(6), pages(5, 3));
        due.is("access(3)", cache.access(3, false), 0);
        rows(due, cache, pages(2, 7), pages(6), pages(3, 5));
        due.is("access(7)", cache.access(7, false), 0);
        rows(due, cache, pages(2, 7), pages(6), pages(3, 5));
        due.residents(cache, 0, 2, 3, 5, 7);
    }

    private static void runsOfOne(Due due) {
        TwoTierCache cache = new TwoTierCache();
        cache.begin(2, 1, 0, 16);
        Due.read(cache, 1, 2);
        rows(due, cache, pages(2), pages(1), pages());
        Due.read(cache, 3);
        rows(due, cache, pages(3), pages(2), pages());
        Due.read(cache, 2);
        rows(due, cache, pages(), pages(3), pages(2));
        Due.read(cache, 4);
        rows(due, cache, pages(4), pages(3), pages());
    }

    private static void roundsAQuarterAndAHalfDown(Due due) {
        for (int capacity = 1; capacity <= 16; capacity++) {
            TwoTierCache cache = new TwoTierCache();
            cache.begin(2, capacity, 0, 16);
            for (int page = 0; page < 40; page++) {
                cache.access(page, false);
            }
            int half = capacity < 2 ? 1 : capacity / 2;
            due.is("end of row 1", cache.row(0, 1, half - 1), 40 - capacity - half);
            due.is("end of row 1", cache.row(0, 1, half), TwoTierCache.NONE);
            // Each page that comes back sends one out of row 0, until a quarter is left in it.
            for (int i = 0; i < 40; i++) {
                cache.access(cache.row(0, 1, 0), false);
            }
            int quarter = capacity / 4;
            if (quarter > 0) {
                due.is("row 0", cache.row(0, 0, quarter - 1) != TwoTierCache.NONE, true);
            }
            due.is("row 0", cache.row(0, 0, quarter), TwoTierCache.NONE);
        }
    }

    private static void makesNoRoomWithoutNeed(Due due) {
        TwoTierCache cache = new TwoTierCache();
        cache.begin(2, 3, 0, 16);
        Due.write(cache, 1, 2, 3);
        rows(due, cache, pages(3, 2, 1), pages(), pages());
        due.counts(cache, 0, 0, 3, 0);
        Due.write(cache, 4);
        rows(due, cache, pages(4, 3, 2), pages(1), pages());
        due.counts(cache, 0, 0, 4, 1);
        due.dirtyPages(cache, 0, 2, 3, 4);
        due.dirtyPages(cache, 1, 1);
    }
}

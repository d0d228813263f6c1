/** The Terms of policy 3, BALANCED, and promise 9, goal. */
public final class BalancedTest {
    public static void main(String[] args) {
        Due due = new Due();
        runsOfTwo(due);
        runsOfFour(due);
        runsOfSix(due);
        putsOutOfRowOneWhenRowZeroIsEmpty(due);
        keepsAllWhileAPageComesBack(due);
        runsOfOne(due);
        goalIsOfBalancedTiersOnly(due);
        due.end();
    }

    private static int[] pages(int... pages) {
        return pages;
    }

    private static void rows(Due due, TwoTierCache cache, int goal,
            int[] row0, int[] row1, int[] row2, int[] row3) {
        due.is("goal(0)", cache.goal(0), goal);
        due.row(cache, 0, 0, row0);
        due.row(cache, 0, 1, row1);
        due.row(cache, 0, 2, row2);
        due.row(cache, 0, 3, row3);
    }

    private static void runsOfTwo(Due due) {
        TwoTierCache cache = new TwoTierCache();
        cache.begin(3, 2, 0, 16);
        Due.read(cache, 1, 2);
        rows(due, cache, 0, pages(2, 1), pages(), pages(), pages());
        // The tail of a full row 0 is in no row any more.
        Due.read(cache, 3);
        rows(due, cache, 0, pages(3, 2), pages(), pages(), pages());
        due.is("access(3)", cache.access(3, false), 0);
        rows(due, cache, 0, pages(2), pages(3), pages(), pages());
        Due.read(cache, 4);
        rows(due, cache, 0, pages(4), pages(3), pages(2), pages());
        due.residents(cache, 0, 3, 4);
        // Rows 0 and 2 are full together: the tail of row 2 leaves it.
        Due.read(cache, 5);
        rows(due, cache, 0, pages(5), pages(3), pages(4), pages());
        due.is("access(4)", cache.access(4, false), 1);
        rows(due, cache, 1, pages(5), pages(4), pages(), pages(3));
        Due.read(cache, 3);
        rows(due, cache, 0, pages(), pages(3, 4), pages(5), pages());
        // Row 0 has no pages: the tail of row 1 is put out, though the goal is not above 0 before.
        Due.read(cache, 5);
        rows(due, cache, 1, pages(), pages(5, 3), pages(), pages(4));
        Due.read(cache, 6);
        rows(due, cache, 1, pages(6), pages(5), pages(), pages(3, 4));
        Due.read(cache, 4);
        rows(due, cache, 0, pages(), pages(4, 5), pages(6), pages(3));
        // All rows have twice the capacity: the tail of row 3 leaves it.
        Due.read(cache, 7);
        rows(due, cache, 0, pages(7), pages(4), pages(6), pages(5));
        due.residents(cache, 0, 4, 7);
    }

    private static void runsOfFour(Due due) {
        TwoTierCache cache = new TwoTierCache();
        cache.begin(3, 4, 0, 16);
        Due.read(cache, 1, 2, 3, 4, 1, 2, 3);
        rows(due, cache, 0, pages(4), pages(3, 2, 1), pages(), pages());
        Due.read(cache, 5, 4);
        rows(due, cache, 1, pages(5), pages(4, 3, 2), pages(), pages(1));
        Due.read(cache, 6);
        rows(due, cache, 1, pages(6, 5), pages(4, 3), pages(), pages(2, 1));
        Due.read(cache, 7);
        rows(due, cache, 1, pages(7, 6), pages(4, 3), pages(5), pages(2, 1));
        // Two in row 3 for one in row 2: the goal grows by 2.
        Due.read(cache, 5);
        rows(due, cache, 3, pages(7, 6), pages(5, 4), pages(), pages(3, 2, 1));
        // Row 0 has just the goal, which counts when the page is in row 3.
        Due.read(cache, 1);
        rows(due, cache, 2, pages(7), pages(1, 5, 4), pages(6), pages(3, 2));
        Due.read(cache, 6);
        rows(due, cache, 4, pages(7), pages(6, 1, 5), pages(), pages(4, 3, 2));
        Due.read(cache, 8, 9);
        rows(due, cache, 4, pages(9, 8, 7), pages(6), pages(), pages(1, 5, 4, 3));
        Due.read(cache, 10);
        rows(due, cache, 4, pages(10, 9, 8, 7), pages(), pages(), pages(6, 1, 5, 4));
        Due.read(cache, 11);
        rows(due, cache, 4, pages(11, 10, 9, 8), pages(), pages(), pages(6, 1, 5, 4));
        Due.read(cache, 6);
        rows(due, cache, 3, pages(11, 10, 9), pages(6), pages(8), pages(1, 5, 4));
        // Row 0 has just the goal, which does not count when the page is in no row.
        Due.read(cache, 12);
        rows(due, cache, 3, pages(12, 11, 10, 9), pages(), pages(), pages(6, 1, 5, 4));
        Due.read(cache, 6, 1, 5);
        rows(due, cache, 0, pages(12), pages(5, 1, 6), pages(11, 10, 9), pages(4));
        Due.read(cache, 9, 10);
        rows(due, cache, 2, pages(12), pages(10, 9, 5), pages(11), pages(1, 6, 4));
        // Three more would be 5: the goal stays within the capacity.
        Due.read(cache, 11);
        rows(due, cache, 4, pages(12), pages(11, 10, 9), pages(), pages(5, 1, 6, 4));
    }

    private static void runsOfSix(Due due) {
        TwoTierCache cache = new TwoTierCache();
        cache.begin(3, 6, 0, 16);
        Due.read(cache, 1, 2, 3, 4, 5, 6, 1, 2, 3, 7, 8, 9);
        rows(due, cache, 0, pages(9, 8, 7), pages(3, 2, 1), pages(6, 5, 4), pages());
        Due.read(cache, 10);
        rows(due, cache, 0, pages(10, 9, 8), pages(3, 2, 1), pages(7, 6, 5), pages());
        Due.read(cache, 5);
        rows(due, cache, 1, pages(10, 9), pages(5, 3, 2, 1), pages(8, 7, 6), pages());
        Due.read(cache, 6);
        rows(due, cache, 2, pages(10, 9), pages(6, 5, 3, 2), pages(8, 7), pages(1));
        // Two in row 2 for one in row 3: the goal shrinks by 2.
        Due.read(cache, 1);
        rows(due, cache, 0, pages(10), pages(1, 6, 5, 3, 2), pages(9, 8, 7), pages());
        Due.read(cache, 7);
        rows(due, cache, 1, pages(10), pages(7, 1, 6, 5, 3), pages(9, 8), pages(2));
        Due.read(cache, 11, 12);
        rows(due, cache, 1, pages(12, 11), pages(7, 1, 6, 5), pages(10, 9, 8), pages(3, 2));
        Due.read(cache, 8);
        rows(due, cache, 2, pages(12, 11), pages(8, 7, 1, 6), pages(10, 9), pages(5, 3, 2));
        // Three in row 3 for two in row 2: that is 1, rounded down.
        Due.read(cache, 9);
        rows(due, cache, 3, pages(12, 11), pages(9, 8, 7, 1), pages(10), pages(6, 5, 3, 2));
    }

    private static void putsOutOfRowOneWhenRowZeroIsEmpty(Due due) {
        TwoTierCache cache = new TwoTierCache();
        cache.begin(3, 2, 0, 16);
        Due.read(cache, 1, 2, 3, 3, 4, 5, 4, 3, 5);
        rows(due, cache, 1, pages(), pages(5, 3), pages(), pages(4));
        // Row 0 has just the goal then, 0, and the page is in row 3, but there is no tail.
        Due.read(cache, 4);
        rows(due, cache, 0, pages(), pages(4, 5), pages(), pages(3));
        due.residents(cache, 0, 4, 5);
    }

    private static void keepsAllWhileAPageComesBack(Due due) {
        TwoTierCache cache = new TwoTierCache();
        cache.begin(3, 16, 0, 16);
        readFrom(cache, 1, 16);
        readFrom(cache, 1, 15);
        Due.read(cache, 17, 16, 18, 19, 17);
        due.is("goal(0)", cache.goal(0), 3);
        Due.read(cache, 20, 21, 22, 18);
        due.is("goal(0)", cache.goal(0), 8);
        readFrom(cache, 23, 28);
        Due.read(cache, 19);
        readFrom(cache, 29, 32);
        rows(due, cache, 16, pages(32, 31, 30, 29, 28, 27, 26, 25, 24, 23, 22, 21, 20),
                pages(19, 18, 17), pages(),
                pages(16, 15, 14, 13, 12, 11, 10, 9, 8, 7, 6, 5, 4, 3, 2, 1));
        // Page 17 comes to row 3 while page 1 is still in it.
        Due.read(cache, 1);
        rows(due, cache, 15, pages(32, 31, 30, 29, 28, 27, 26, 25, 24, 23, 22, 21, 20),
                pages(1, 19, 18), pages(),
                pages(17, 16, 15, 14, 13, 12, 11, 10, 9, 8, 7, 6, 5, 4, 3, 2));
    }

    private static void readFrom(TwoTierCache cache, int first, int last) {
        for (int page = first; page <= last; page++) {
            cache.access(page, false);
        }
    }

    private static void runsOfOne(Due due) {
        TwoTierCache cache = new TwoTierCache();
        cache.begin(3, 1, 0, 16);
        Due.read(cache, 1, 2);
        rows(due, cache, 0, pages(2), pages(), pages(), pages());
        Due.read(cache, 2, 3);
        rows(due, cache, 0, pages(3), pages(), pages(), pages(2));
        Due.read(cache, 2);
        rows(due, cache, 0, pages(), pages(2), pages(3), pages());
        Due.read(cache, 3);
        rows(due, cache, 1, pages(), pages(3), pages(), pages(2));
        Due.read(cache, 4);
        rows(due, cache, 1, pages(4), pages(), pages(), pages(3));
    }

    private static void goalIsOfBalancedTiersOnly(Due due) {
        TwoTierCache cache = new TwoTierCache();
        for (int policy = 0; policy < 4; policy++) {
            cache.begin(policy, 2, 3 - policy, 2);
            Due.read(cache, 1, 2, 3, 3, 4, 2);
            due.is("goal(0)", cache.goal(0) != TwoTierCache.NONE, policy == 3);
            due.is("goal(1)", cache.goal(1) != TwoTierCache.NONE, policy == 0);
        }
        cache.begin(3, 2, 3, 2);
        int[] noTiers = {-1, 2, Integer.MIN_VALUE, Integer.MAX_VALUE};
        for (int tier : noTiers) {
            due.is("goal(" + tier + ")", cache.goal(tier), TwoTierCache.NONE);
        }
    }
}

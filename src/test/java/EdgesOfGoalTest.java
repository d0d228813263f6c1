/**
 * The Terms of policy 3, BALANCED, at the edges of its GOAL. Each test is of one sentence of the
 * document, which stands above it.
 */
public final class EdgesOfGoalTest {
    public static void main(String[] args) {
        Due due = new Due();
        zeroAtFirst(due);
        staysForOtherRows(due);
        goalGrowsToJustTheCapacity(due);
        goalStopsAtTheCapacity(due);
        goalStaysAtTheCapacity(due);
        goalGrowsByOneWhenRow3IsEmpty(due);
        goalGrowsByOneWhenRow3IsShorter(due);
        goalGrowsByOneWhenRowsAreEqual(due);
        goalGrowsRoundedDown(due);
        goalGrowsByTwoRoundedDown(due);
        goalGrowsByAllOfRow3(due);
        row2PutsOutByTheNewGoal(due);
        goalShrinksToJustZero(due);
        goalStopsAtZero(due);
        goalStaysAtZero(due);
        goalShrinksFromTheCapacity(due);
        goalShrinksByOneWhenRow2IsEmpty(due);
        goalShrinksByOneWhenRow2IsShorter(due);
        goalShrinksByOneWhenRowsAreEqual(due);
        goalShrinksRoundedDown(due);
        goalShrinksByTwo(due);
        row3PutsOutByTheNewGoal(due);
        due.end();
    }

    /** Reads pages in a BALANCED tier 0, looks at it, reads one page more and looks again. */
    private static void edge(Due due, int capacity, int[] pages, String before, int page,
            String after) {
        TwoTierCache cache = new TwoTierCache();
        cache.begin(3, capacity, 0, 16);
        Due.read(cache, pages);
        due.balanced("before access(" + page + ")", cache, 0, before);
        Due.read(cache, page);
        due.balanced("access(" + page + ")", cache, 0, after);
    }

    private static int[] pages(int... pages) {
        return pages;
    }

    /** "a GOAL, 0 at first": for each capacity, in both tiers, and at the next begin. */
    private static void zeroAtFirst(Due due) {
        for (int c = 1; c <= 16; c++) {
            TwoTierCache cache = new TwoTierCache();
            cache.begin(3, c, 3, 17 - c);
            due.is("goal(0) of " + c, cache.goal(0), 0);
            due.is("goal(1) of " + (17 - c), cache.goal(1), 0);
        }
        TwoTierCache cache = new TwoTierCache();
        cache.begin(3, 2, 0, 16);
        Due.read(cache, 1, 1, 2, 3, 2);
        due.is("goal(0)", cache.goal(0), 1);
        cache.begin(3, 2, 0, 16);
        due.is("goal(0) after begin", cache.goal(0), 0);
    }

    /** "In row 2: the goal becomes": only there and in row 3; other touches leave it as it is. */
    private static void staysForOtherRows(Due due) {
        TwoTierCache cache = new TwoTierCache();
        cache.begin(3, 3, 0, 16);
        Due.read(cache, 1, 1, 2, 3, 4, 2);
        due.balanced("before", cache, 0, "1: 4 | 2 1 | 3 | -");
        Due.read(cache, 1);
        due.balanced("page 1 of row 1", cache, 0, "1: 4 | 1 2 | 3 | -");
        Due.read(cache, 4);
        due.balanced("page 4 of row 0", cache, 0, "1: - | 4 1 2 | 3 | -");
        Due.read(cache, 5);
        due.balanced("page 5 of none", cache, 0, "1: 5 | 4 1 | 3 | 2");
    }

    /** "the least of c and goal + ..": just c. */
    private static void goalGrowsToJustTheCapacity(Due due) {
        edge(due, 4, pages(1, 1, 2, 3, 4, 5, 2, 3, 6, 7),
                "2: 7 6 5 | 3 | 4 | 2 1", 4, "4: 7 6 5 | 4 | - | 3 2 1");
    }

    /** "the least of c and goal + ..": c, for c + 1. */
    private static void goalStopsAtTheCapacity(Due due) {
        edge(due, 3, pages(1, 1, 2, 2, 3, 4, 3, 5, 6, 4, 3),
                "2: 6 | 3 4 | 5 | 2 1", 5, "3: 6 | 5 3 | - | 4 2 1");
    }

    /** "the least of c and goal + ..": c, when it was c. */
    private static void goalStaysAtTheCapacity(Due due) {
        edge(due, 6, pages(1, 1, 2, 2, 3, 3, 4, 5, 6, 7, 4, 5, 8, 9, 10, 6, 11, 12, 7, 1, 8),
                "6: 12 11 10 | 8 1 7 | 9 | 6 5 4 3 2", 9, "6: 12 11 10 | 9 8 1 | - | 7 6 5 4 3 2");
    }

    /** "goal + the greatest of 1 and e / d": 1, for e = 0. */
    private static void goalGrowsByOneWhenRow3IsEmpty(Due due) {
        edge(due, 3, pages(1, 1, 2, 3, 4),
                "0: 4 3 | 1 | 2 | -", 2, "1: 4 | 2 1 | 3 | -");
    }

    /** "goal + the greatest of 1 and e / d": 1, for 1 / 2. */
    private static void goalGrowsByOneWhenRow3IsShorter(Due due) {
        edge(due, 3, pages(1, 1, 2, 2, 3, 3, 4, 5, 6),
                "0: 6 | 3 2 | 5 4 | 1", 5, "1: 6 | 5 3 | 4 | 2 1");
    }

    /** "goal + the greatest of 1 and e / d", "x itself counts in d": 1, for 2 / 2. */
    private static void goalGrowsByOneWhenRowsAreEqual(Due due) {
        edge(due, 4, pages(1, 1, 2, 2, 3, 3, 4, 5, 4, 6, 7, 8),
                "1: 8 7 | 4 3 | 6 5 | 2 1", 6, "2: 8 7 | 6 4 | 5 | 3 2 1");
    }

    /** "goal + the greatest of 1 and e / d", "rounded down": 1, for 3 / 2. */
    private static void goalGrowsRoundedDown(Due due) {
        edge(due, 5, pages(1, 1, 2, 2, 3, 3, 4, 5, 6, 4, 5, 7, 8, 9, 10),
                "2: 10 9 8 | 5 4 | 7 6 | 3 2 1", 6, "3: 10 9 8 | 6 5 | 7 | 4 3 2 1");
    }

    /** "goal + the greatest of 1 and e / d", "rounded down": 2, for 5 / 2. */
    private static void goalGrowsByTwoRoundedDown(Due due) {
        edge(due, 8, pages(1, 1, 2, 2, 3, 3, 4, 5, 6, 7, 8, 9, 4, 5, 6, 10, 11, 7, 12, 13, 14, 15),
                "5: 15 14 13 12 11 10 | 7 6 | 9 8 | 5 4 3 2 1", 8,
                "7: 15 14 13 12 11 10 | 8 7 | 9 | 6 5 4 3 2 1");
    }

    /** "x itself counts in d": x alone is in row 2, so 3 / 1. */
    private static void goalGrowsByAllOfRow3(Due due) {
        edge(due, 4, pages(1, 1, 2, 2, 3, 3, 4, 4, 5, 6, 5, 7, 8),
                "1: 8 7 | 5 4 | 6 | 3 2 1", 6, "4: 8 7 | 6 5 | - | 4 3 2 1");
    }

    /**
     * "In row 2: the goal becomes ..; a page is PUT OUT": row 0 has more than the old goal only.
     */
    private static void row2PutsOutByTheNewGoal(Due due) {
        edge(due, 3, pages(1, 1, 2, 2, 3, 4),
                "0: 4 | 2 1 | 3 | -", 3, "1: 4 | 3 2 | - | 1");
    }

    /** "the greatest of 0 and goal - ..": just 0. */
    private static void goalShrinksToJustZero(Due due) {
        edge(due, 5, pages(1, 1, 2, 3, 4, 5, 6, 2, 3, 7, 8),
                "2: 8 7 6 | 3 2 | 5 4 | 1", 1, "0: 8 7 | 1 3 2 | 6 5 4 | -");
    }

    /** "the greatest of 0 and goal - ..": 0, for 1 - 2. */
    private static void goalStopsAtZero(Due due) {
        edge(due, 4, pages(1, 1, 2, 2, 3, 4, 5, 3, 6, 7),
                "1: 7 6 | 3 2 | 5 4 | 1", 1, "0: 7 | 1 3 2 | 6 5 4 | -");
    }

    /** "the greatest of 0 and goal - ..": 0, when it was 0. */
    private static void goalStaysAtZero(Due due) {
        edge(due, 3, pages(1, 1, 2, 2, 3, 3, 4),
                "0: 4 | 3 2 | - | 1", 1, "0: - | 1 3 2 | 4 | -");
    }

    /** "the greatest of 0 and goal - ..": c - 1, when it was c. */
    private static void goalShrinksFromTheCapacity(Due due) {
        edge(due, 4, pages(1, 1, 2, 3, 4, 5, 2, 3, 6, 7, 4, 8),
                "4: 8 7 6 5 | - | - | 4 3 2 1", 1, "3: 8 7 6 | 1 | 5 | 4 3 2");
    }

    /** "goal - the greatest of 1 and d / e": 1, for d = 0. */
    private static void goalShrinksByOneWhenRow2IsEmpty(Due due) {
        edge(due, 4, pages(1, 1, 2, 3, 4, 5, 2, 3),
                "2: 5 4 | 3 2 | - | 1", 1, "1: 5 | 1 3 2 | 4 | -");
    }

    /** "goal - the greatest of 1 and d / e": 1, for 1 / 2. */
    private static void goalShrinksByOneWhenRow2IsShorter(Due due) {
        edge(due, 4, pages(1, 1, 2, 3, 4, 5, 2, 3, 6, 7),
                "2: 7 6 5 | 3 | 4 | 2 1", 2, "1: 7 6 | 2 3 | 5 4 | 1");
    }

    /** "goal - the greatest of 1 and d / e": 1, for 2 / 2 (x counts in e). */
    private static void goalShrinksByOneWhenRowsAreEqual(Due due) {
        edge(due, 5, pages(1, 1, 2, 2, 3, 4, 5, 6, 3, 4, 7, 8, 9),
                "2: 9 8 7 | 4 3 | 6 5 | 2 1", 1, "1: 9 8 | 1 4 3 | 7 6 5 | 2");
    }

    /** "goal - the greatest of 1 and d / e": 1, for 3 / 2. */
    private static void goalShrinksRoundedDown(Due due) {
        edge(due, 6, pages(1, 1, 2, 2, 3, 3, 4, 5, 6, 7, 4, 5, 8, 9, 10, 11),
                "2: 11 10 9 | 5 4 3 | 8 7 6 | 2 1", 1, "1: 11 10 | 1 5 4 3 | 9 8 7 6 | 2");
    }

    /** "goal - the greatest of 1 and d / e": 2, for 2 / 1. */
    private static void goalShrinksByTwo(Due due) {
        edge(due, 6, pages(1, 1, 2, 3, 4, 5, 6, 7, 2, 3, 8, 9, 4),
                "3: 9 8 7 | 4 3 2 | 6 5 | 1", 1, "1: 9 8 | 1 4 3 2 | 7 6 5 | -");
    }

    /** "In row 3: the goal becomes ..; a page is put out": row 0 has just the new goal. */
    private static void row3PutsOutByTheNewGoal(Due due) {
        edge(due, 3, pages(1, 1, 2, 3, 4, 2, 3),
                "2: 4 | 3 2 | - | 1", 1, "1: - | 1 3 2 | 4 | -");
    }
}

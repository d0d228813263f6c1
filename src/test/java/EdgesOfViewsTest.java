/**
 * Promises 5 to 9, resident, dirty, marked, row and goal, at their edges. Each test is of one
 * sentence of the document, which stands above it.
 */
public final class EdgesOfViewsTest {
    private static final int MIN = Integer.MIN_VALUE;
    private static final int MAX = Integer.MAX_VALUE;
    private static final int[] NO_TIERS = {-1, 2, 3, -2, MIN, MAX};
    // Below 0 and above 63, and what is page 0, 1 or 63 again when its high bits are cut off.
    private static final int[] NO_PAGES =
            {-1, 64, 65, 127, 128, 256, -63, -64, 1 << 16, 1 << 31 | 1, MIN, MAX};

    public static void main(String[] args) {
        Due due = new Due();
        residentOfTheRowsOfQueues(due);
        residentOfTheRowsOfBalanced(due);
        residentOfAPageThatLeft(due);
        residentOfNoPage(due);
        residentOfNoTier(due);
        dirtyOfEachTier(due);
        dirtyOfAPageGoneOut(due);
        dirtyOfNoPage(due);
        dirtyOfNoTier(due);
        markedInTheTierThatIsClock(due);
        markedInATierThatIsNotClock(due);
        markedAfterAnotherPolicyBegan(due);
        markedOfAPageThatLeft(due);
        markedOfNoPage(due);
        markedOfNoTier(due);
        rowOfThoseGoneOut(due);
        rowOfNoRow(due);
        rowOfNoTier(due);
        rowOfNoPlace(due);
        rowOfNoPlaceInAFullRow(due);
        rowThatIsEmpty(due);
        rowThatThePolicyHasNot(due);
        goalOfATierThatIsNotBalanced(due);
        goalOfTheTierThatIsBalanced(due);
        goalOfNoTier(due);
        due.end();
    }

    private static TwoTierCache of(int policy0, int capacity0, int policy1, int capacity1) {
        TwoTierCache cache = new TwoTierCache();
        cache.begin(policy0, capacity0, policy1, capacity1);
        return cache;
    }

    /** "Whether a page is resident in a tier (not in a row of those gone out)": QUEUES, row 1. */
    private static void residentOfTheRowsOfQueues(Due due) {
        TwoTierCache cache = of(2, 4, 2, 16);
        Due.read(cache, 1, 2, 3, 4, 5, 6, 1);
        due.rows("before", cache, 0, "6 5 4 | 3 2 | 1 | -");
        due.residents(cache, 0, 1, 4, 5, 6);
        due.residents(cache, 1, 1, 2, 3, 4, 5, 6);
    }

    /** "(not in a row of those gone out)": BALANCED, rows 2 and 3. */
    private static void residentOfTheRowsOfBalanced(Due due) {
        TwoTierCache cache = of(3, 3, 0, 16);
        Due.read(cache, 1, 1, 2, 2, 3, 3, 4, 5, 6);
        due.rows("before", cache, 0, "6 | 3 2 | 5 4 | 1");
        due.residents(cache, 0, 2, 3, 6);
        due.residents(cache, 1, 1, 2, 3, 4, 5, 6);
    }

    /** "Whether a page is resident in a tier": it left RECENT and CLOCK, and is in no row. */
    private static void residentOfAPageThatLeft(Due due) {
        TwoTierCache cache = of(0, 1, 1, 2);
        Due.read(cache, 0, 1, 63);
        due.residents(cache, 0, 63);
        due.residents(cache, 1, 1, 63);
    }

    /** Pages 0, 1 and 63 are resident in both tiers. */
    private static TwoTierCache withPages() {
        TwoTierCache cache = of(0, 4, 0, 4);
        Due.read(cache, 0, 1, 63);
        return cache;
    }

    /** Promise 5, "false when there is no such page or tier": no such page. */
    private static void residentOfNoPage(Due due) {
        TwoTierCache cache = withPages();
        for (int page : new int[] {0, 1, 63}) {
            due.is("resident(0, " + page + ")", cache.resident(0, page), true);
            due.is("resident(1, " + page + ")", cache.resident(1, page), true);
        }
        for (int page : NO_PAGES) {
            due.is("resident(0, " + page + ")", cache.resident(0, page), false);
            due.is("resident(1, " + page + ")", cache.resident(1, page), false);
        }
    }

    /** Promise 5, "false when there is no such page or tier": no such tier. */
    private static void residentOfNoTier(Due due) {
        TwoTierCache cache = withPages();
        for (int tier : NO_TIERS) {
            due.is("resident(" + tier + ", 1)", cache.resident(tier, 1), false);
            due.is("resident(" + tier + ", -1)", cache.resident(tier, -1), false);
        }
    }

    /** "Whether a page is dirty in a tier": in one tier, in the other one, in both, in none. */
    private static void dirtyOfEachTier(Due due) {
        TwoTierCache cache = of(0, 2, 0, 4);
        Due.write(cache, 1, 2);
        Due.read(cache, 3, 4);
        due.dirtyPages(cache, 0);
        due.dirtyPages(cache, 1, 1, 2);
        Due.write(cache, 2, 3);
        due.dirtyPages(cache, 0, 2, 3);
        due.dirtyPages(cache, 1, 1, 2);
    }

    /** "Whether a page is dirty in a tier": not when it is gone out, in row 2 or 3 of BALANCED. */
    private static void dirtyOfAPageGoneOut(Due due) {
        TwoTierCache cache = of(3, 2, 0, 16);
        Due.write(cache, 1, 1, 2, 3, 2);
        due.rows("before", cache, 0, "3 | 2 | - | 1");
        due.dirtyPages(cache, 0, 2, 3);
        Due.read(cache, 1);
        due.rows("access(1)", cache, 0, "- | 1 2 | 3 | -");
        due.dirtyPages(cache, 0, 2);
    }

    /** Promise 6, "false when there is no such page or tier": no such page. */
    private static void dirtyOfNoPage(Due due) {
        TwoTierCache cache = of(0, 4, 0, 8);
        Due.write(cache, 0, 1, 63, 2, 3, 4, 5, 0, 1, 63);
        for (int page : new int[] {0, 1, 63}) {
            due.is("dirty(0, " + page + ")", cache.dirty(0, page), true);
            due.is("dirty(1, " + page + ")", cache.dirty(1, page), true);
        }
        for (int page : NO_PAGES) {
            due.is("dirty(0, " + page + ")", cache.dirty(0, page), false);
            due.is("dirty(1, " + page + ")", cache.dirty(1, page), false);
        }
    }

    /** Promise 6, "false when there is no such page or tier": no such tier. */
    private static void dirtyOfNoTier(Due due) {
        TwoTierCache cache = of(0, 1, 0, 8);
        Due.write(cache, 1, 2, 1);
        due.is("dirty(0, 1)", cache.dirty(0, 1), true);
        due.is("dirty(1, 1)", cache.dirty(1, 1), true);
        for (int tier : NO_TIERS) {
            due.is("dirty(" + tier + ", 1)", cache.dirty(tier, 1), false);
            due.is("dirty(" + tier + ", 64)", cache.dirty(tier, 64), false);
        }
    }

    /** "Whether a page is marked in a tier that is CLOCK": in one tier, and not in the other. */
    private static void markedInTheTierThatIsClock(Due due) {
        TwoTierCache cache = of(1, 2, 0, 4);
        Due.read(cache, 1, 1, 2);
        due.markedPages(cache, 0, 1);
        due.markedPages(cache, 1);
        cache = of(0, 1, 1, 4);
        Due.read(cache, 1, 1, 2, 1);
        due.markedPages(cache, 0);
        due.markedPages(cache, 1, 1);
    }

    /** "false when it is not": a tier that is not CLOCK, with hits of all its pages. */
    private static void markedInATierThatIsNotClock(Due due) {
        for (int policy : new int[] {0, 2, 3}) {
            TwoTierCache cache = of(policy, 2, policy, 3);
            Due.write(cache, 1, 1, 2, 2, 3, 2, 1, 1);
            cache.flush();
            due.markedPages(cache, 0);
            due.markedPages(cache, 1);
        }
    }

    /** "false when it is not": a tier that was CLOCK, and is not any more. */
    private static void markedAfterAnotherPolicyBegan(Due due) {
        TwoTierCache cache = of(1, 2, 1, 2);
        Due.read(cache, 1, 1);
        due.is("marked(0, 1)", cache.marked(0, 1), true);
        cache.begin(0, 2, 3, 2);
        Due.read(cache, 1, 1);
        due.markedPages(cache, 0);
        due.markedPages(cache, 1);
    }

    /** "Whether a page is marked in a tier": not after it left, nor when it comes back. */
    private static void markedOfAPageThatLeft(Due due) {
        TwoTierCache cache = of(1, 1, 0, 4);
        Due.read(cache, 1, 1);
        due.markedPages(cache, 0, 1);
        Due.read(cache, 2);
        due.markedPages(cache, 0);
        Due.read(cache, 1);
        due.markedPages(cache, 0);
    }

    /** Promise 7, "false when it is not": no such page. */
    private static void markedOfNoPage(Due due) {
        TwoTierCache cache = of(1, 3, 1, 3);
        Due.write(cache, 0, 1, 63, 0, 1, 63);
        cache.flush();
        due.markedPages(cache, 0, 0, 1, 63);
        due.markedPages(cache, 1, 0, 1, 63);
        for (int page : NO_PAGES) {
            due.is("marked(0, " + page + ")", cache.marked(0, page), false);
            due.is("marked(1, " + page + ")", cache.marked(1, page), false);
        }
    }

    /** Promise 7, "false when it is not": no such tier. */
    private static void markedOfNoTier(Due due) {
        TwoTierCache cache = of(1, 3, 1, 3);
        Due.write(cache, 1, 1);
        cache.flush();
        due.is("marked(0, 1)", cache.marked(0, 1), true);
        due.is("marked(1, 1)", cache.marked(1, 1), true);
        for (int tier : NO_TIERS) {
            due.is("marked(" + tier + ", 1)", cache.marked(tier, 1), false);
            due.is("marked(" + tier + ", 64)", cache.marked(tier, 64), false);
        }
    }

    /** "(of those gone out, too)": row 1 of QUEUES, rows 2 and 3 of BALANCED, in either tier. */
    private static void rowOfThoseGoneOut(Due due) {
        TwoTierCache cache = of(2, 4, 3, 3);
        Due.read(cache, 1, 2, 3, 4, 5, 6);
        due.is("row(0, 1, 0)", cache.row(0, 1, 0), 2);
        due.is("row(0, 1, 1)", cache.row(0, 1, 1), 1);
        due.is("row(0, 1, 2)", cache.row(0, 1, 2), TwoTierCache.NONE);
        cache = of(0, 1, 3, 2);
        Due.read(cache, 1, 2, 1, 3);
        due.rows("access(3)", cache, 1, "3 | 1 | 2 | -");
        due.is("row(1, 2, 0)", cache.row(1, 2, 0), 2);
        due.is("row(1, 2, 1)", cache.row(1, 2, 1), TwoTierCache.NONE);
        Due.read(cache, 2);
        due.is("row(1, 3, 0)", cache.row(1, 3, 0), 1);
        due.is("row(1, 3, 1)", cache.row(1, 3, 1), TwoTierCache.NONE);
    }

    /** "The i-th page .. of a row 0 .. 3 of a tier; NONE when there is none.": no such row. */
    private static void rowOfNoRow(Due due) {
        TwoTierCache cache = of(3, 2, 3, 2);
        Due.read(cache, 1, 1, 2, 3, 2);
        due.is("row(0, 0, 0)", cache.row(0, 0, 0), 3);
        due.is("row(0, 3, 0)", cache.row(0, 3, 0), 1);
        for (int row : new int[] {-1, 4, 5, -4, 8, MIN, MAX}) {
            due.is("row(0, " + row + ", 0)", cache.row(0, row, 0), TwoTierCache.NONE);
            due.is("row(1, " + row + ", 0)", cache.row(1, row, 0), TwoTierCache.NONE);
            due.is("row(0, " + row + ", 1)", cache.row(0, row, 1), TwoTierCache.NONE);
        }
    }

    /** Promise 8, "NONE when there is none.": no such tier. */
    private static void rowOfNoTier(Due due) {
        TwoTierCache cache = of(0, 2, 0, 2);
        Due.read(cache, 1, 2);
        for (int tier : NO_TIERS) {
            for (int row = -1; row <= 4; row++) {
                due.is("row(" + tier + ", " + row + ", 0)", cache.row(tier, row, 0),
                        TwoTierCache.NONE);
            }
        }
    }

    /** Promise 8, "The i-th page (from the head, 0)", "NONE when there is none.": no such place. */
    private static void rowOfNoPlace(Due due) {
        TwoTierCache cache = of(0, 16, 1, 16);
        Due.read(cache, 1, 2, 3);
        due.is("row(0, 0, 0)", cache.row(0, 0, 0), 3);
        due.is("row(0, 0, 2)", cache.row(0, 0, 2), 1);
        due.is("row(1, 0, 0)", cache.row(1, 0, 0), 1);
        due.is("row(1, 0, 2)", cache.row(1, 0, 2), 3);
        for (int i : new int[] {-1, 3, 4, 15, 16, 17, 18, 64, -3, MIN, MAX}) {
            due.is("row(0, 0, " + i + ")", cache.row(0, 0, i), TwoTierCache.NONE);
            due.is("row(1, 0, " + i + ")", cache.row(1, 0, i), TwoTierCache.NONE);
        }
    }

    /** Promise 8, "NONE when there is none.": behind the last page of a row of 16, and before. */
    private static void rowOfNoPlaceInAFullRow(Due due) {
        TwoTierCache cache = of(0, 16, 1, 16);
        for (int page = 0; page < 20; page++) {
            cache.access(page, false);
        }
        due.is("row(0, 0, 15)", cache.row(0, 0, 15), 4);
        due.is("row(1, 0, 15)", cache.row(1, 0, 15), 19);
        for (int i : new int[] {-1, 16, 17, 32, MIN, MAX}) {
            due.is("row(0, 0, " + i + ")", cache.row(0, 0, i), TwoTierCache.NONE);
            due.is("row(1, 0, " + i + ")", cache.row(1, 0, i), TwoTierCache.NONE);
        }
    }

    /** Promise 8, "NONE when there is none.": a row that is empty at first, or again. */
    private static void rowThatIsEmpty(Due due) {
        TwoTierCache cache = of(3, 2, 0, 2);
        for (int row = 0; row < 4; row++) {
            due.is("row(0, " + row + ", 0)", cache.row(0, row, 0), TwoTierCache.NONE);
            due.is("row(0, " + row + ", -1)", cache.row(0, row, -1), TwoTierCache.NONE);
        }
        Due.read(cache, 1);
        due.is("row(0, 0, 0)", cache.row(0, 0, 0), 1);
        Due.read(cache, 1);
        due.is("row(0, 0, 0)", cache.row(0, 0, 0), TwoTierCache.NONE);
        due.is("row(0, 1, 0)", cache.row(0, 1, 0), 1);
    }

    /** Promise 8, "NONE when there is none.": rows that a policy doesn't use stay empty. */
    private static void rowThatThePolicyHasNot(Due due) {
        int[] used = {1, 1, 3, 4};
        for (int policy = 0; policy < 4; policy++) {
            TwoTierCache cache = of(policy, 2, policy, 3);
            Due.write(cache, 1, 2, 2, 3, 1, 4, 3, 2, 5, 1, 4, 4, 2);
            for (int row = used[policy]; row < 4; row++) {
                due.is("row(0, " + row + ", 0)", cache.row(0, row, 0), TwoTierCache.NONE);
                due.is("row(1, " + row + ", 0)", cache.row(1, row, 0), TwoTierCache.NONE);
            }
        }
    }

    /** "The goal of a tier that is BALANCED; NONE when it is not": the three other policies. */
    private static void goalOfATierThatIsNotBalanced(Due due) {
        TwoTierCache fresh = new TwoTierCache();
        due.is("goal(0)", fresh.goal(0), TwoTierCache.NONE);
        due.is("goal(1)", fresh.goal(1), TwoTierCache.NONE);
        for (int policy = 0; policy < 3; policy++) {
            TwoTierCache cache = of(3, 2, 3, 2);
            Due.read(cache, 1, 1, 2, 3, 2);
            due.is("goal(0)", cache.goal(0), 1);
            cache.begin(policy, 2, policy, 2);
            Due.read(cache, 1, 1, 2, 3, 2);
            due.is("goal(0) by " + policy, cache.goal(0), TwoTierCache.NONE);
            due.is("goal(1) by " + policy, cache.goal(1), TwoTierCache.NONE);
        }
    }

    /** "The goal of a tier that is BALANCED": one is, the other one is not; each has its own. */
    private static void goalOfTheTierThatIsBalanced(Due due) {
        TwoTierCache cache = of(3, 2, 0, 2);
        due.is("goal(0)", cache.goal(0), 0);
        due.is("goal(1)", cache.goal(1), TwoTierCache.NONE);
        cache = of(0, 2, 3, 2);
        due.is("goal(0)", cache.goal(0), TwoTierCache.NONE);
        due.is("goal(1)", cache.goal(1), 0);
        cache = of(3, 2, 3, 16);
        Due.read(cache, 1, 1, 2, 3, 2);
        due.is("goal(0)", cache.goal(0), 1);
        due.is("goal(1)", cache.goal(1), 0);
    }

    /** "NONE when it is not, or there is no such tier." */
    private static void goalOfNoTier(Due due) {
        TwoTierCache cache = of(3, 2, 3, 2);
        for (int tier : NO_TIERS) {
            due.is("goal(" + tier + ")", cache.goal(tier), TwoTierCache.NONE);
        }
    }
}

/**
 * The Terms of policy 3, BALANCED, at the edges of its rows. Each test is of one sentence of the
 * document, which stands above it.
 */
public final class EdgesOfPuttingOutTest {
    public static void main(String[] args) {
        Due due = new Due();
        fullRow3KeepsAllWhileAPageComesBack(due);
        headOfRowZero(due);
        tailOfRowZero(due);
        onlyPageOfRowZero(due);
        headOfRow1(due);
        tailOfRow1(due);
        fullRowZeroLosesItsTail(due);
        fullRowZeroBesideAFullRow3(due);
        rowZeroIsOneBelowTheCapacity(due);
        rowZeroIsEmptyAndRow2Full(due);
        row3KeepsItsTailWhenRow2LosesOne(due);
        row2LosesItsTailAndRow1IsPutOut(due);
        row2LosesItsTailBelowTheGoal(due);
        nothingIsPutOutBelowTheCapacity(due);
        onePageIsPutOutAtTheCapacity(due);
        onePageIsPutOutAtTheCapacityOfOne(due);
        row3KeepsItsTailBelowTwiceTheCapacity(due);
        row3LosesItsTailAtTwiceTheCapacity(due);
        row3LosesItsTailAndGetsAnother(due);
        row3LosesItsOnlyPage(due);
        putsOutOfRow1WhenRowZeroIsEmpty(due);
        putsOutOfRow1WhenRowZeroIsEmptyForRow2(due);
        putsOutOfRow1WhenRowZeroIsEmptyForRow3(due);
        putsOutOfRowZeroAboveTheGoal(due);
        putsOutOfRowZeroAboveTheGoalForRow2(due);
        putsOutOfRowZeroAboveTheGoalForRow3(due);
        putsOutOfRow1AtTheGoal(due);
        putsOutOfRow1AtTheGoalForRow2(due);
        putsOutOfRowZeroAtTheGoalForRow3(due);
        putsOutOfRow1BelowTheGoal(due);
        putsOutOfRow1BelowTheGoalForRow2(due);
        putsOutOfRow1BelowTheGoalForRow3(due);
        putsOutTheOnlyPageOfRowZero(due);
        putsOutTheOnlyPageOfRow1(due);
        due.end();
    }

    /** Reads pages in a BALANCED tier 0, looks at it, reads one page more and looks again. */
    private static void edge(Due due, int capacity, int[] pages, String before, int page,
            String after) {
        TwoTierCache cache = new TwoTierCache();
        cache.begin(3, capacity, 0, 16);
        Due.read(cache, pages);
        due.balanced("before access(" + page + ")", cache, 0, before);
        Due.read(cache, page);
        due.balanced("access(" + page + ")", cache, 0, after);
    }

    private static int[] pages(int... pages) {
        return pages;
    }

    /**
     * "a page is put out; x leaves row 3 and comes to the head of row 1": x is still there when
     * the victim comes, and of 16 pages in row 3 none leaves for it but x.
     */
    private static void fullRow3KeepsAllWhileAPageComesBack(Due due) {
        edge(due, 16, pages(1, 2, 3, 4, 5, 6, 7, 8, 9, 10, 11, 12, 13, 14, 15, 16,
                1, 2, 3, 4, 5, 6, 7, 8, 9, 10, 11, 12, 13, 14, 15,
                17, 16, 18, 19, 17, 20, 21, 22, 18, 23, 24, 25, 26, 27, 28, 19, 29, 30, 31, 32),
                "16: 32 31 30 29 28 27 26 25 24 23 22 21 20 | 19 18 17 | - "
                        + "| 16 15 14 13 12 11 10 9 8 7 6 5 4 3 2 1", 1,
                "15: 32 31 30 29 28 27 26 25 24 23 22 21 20 | 1 19 18 | - "
                        + "| 17 16 15 14 13 12 11 10 9 8 7 6 5 4 3 2");
    }

    /** "x is in row 0 or 1: it comes to the head of row 1.": the head of row 0. */
    private static void headOfRowZero(Due due) {
        edge(due, 3, pages(1, 2, 3),
                "0: 3 2 1 | - | - | -", 3, "0: 2 1 | 3 | - | -");
    }

    /** "x is in row 0 or 1: it comes to the head of row 1.": the tail of row 0. */
    private static void tailOfRowZero(Due due) {
        edge(due, 3, pages(1, 2, 3, 3),
                "0: 2 1 | 3 | - | -", 1, "0: 2 | 1 3 | - | -");
    }

    /** "x is in row 0 or 1: it comes to the head of row 1.": row 0 is empty then. */
    private static void onlyPageOfRowZero(Due due) {
        edge(due, 3, pages(1),
                "0: 1 | - | - | -", 1, "0: - | 1 | - | -");
    }

    /** "x is in row 0 or 1: it comes to the head of row 1.": the head of row 1. */
    private static void headOfRow1(Due due) {
        edge(due, 3, pages(1, 2, 3, 1, 2),
                "0: 3 | 2 1 | - | -", 2, "0: 3 | 2 1 | - | -");
    }

    /** "x is in row 0 or 1: it comes to the head of row 1.": the tail of row 1. */
    private static void tailOfRow1(Due due) {
        edge(due, 3, pages(1, 2, 3, 1, 2, 3),
                "0: - | 3 2 1 | - | -", 1, "0: - | 1 3 2 | - | -");
    }

    /**
     * "if a + d is c: when a is below c, ..; otherwise the tail of row 0 is the victim, and in no
     * row any more."
     */
    private static void fullRowZeroLosesItsTail(Due due) {
        edge(due, 3, pages(1, 2, 3),
                "0: 3 2 1 | - | - | -", 4, "0: 4 3 2 | - | - | -");
    }

    /**
     * "if a + d is c: .. otherwise the tail of row 0 is the victim": row 3 and the goal are at c,
     * and stay.
     */
    private static void fullRowZeroBesideAFullRow3(Due due) {
        edge(due, 4, pages(1, 1, 2, 3, 4, 5, 2, 3, 6, 7, 4, 8),
                "4: 8 7 6 5 | - | - | 4 3 2 1", 9, "4: 9 8 7 6 | - | - | 4 3 2 1");
    }

    /**
     * "if a + d is c: when a is below c, the tail of row 2 leaves it and a page is put out": a is
     * c - 1.
     */
    private static void rowZeroIsOneBelowTheCapacity(Due due) {
        edge(due, 3, pages(1, 1, 2, 3, 4),
                "0: 4 3 | 1 | 2 | -", 5, "0: 5 4 | 1 | 3 | -");
    }

    /**
     * "if a + d is c: when a is below c, the tail of row 2 leaves it and a page is put out": a is
     * 0.
     */
    private static void rowZeroIsEmptyAndRow2Full(Due due) {
        edge(due, 3, pages(1, 1, 2, 2, 3, 3, 4, 5, 6, 1),
                "0: - | 1 3 2 | 6 5 4 | -", 7, "0: 7 | 1 3 | 6 5 | 2");
    }

    /**
     * "if a + d is c: .. the tail of row 2 leaves it": all rows have 2 * c, but row 3 keeps its
     * tail.
     */
    private static void row3KeepsItsTailWhenRow2LosesOne(Due due) {
        edge(due, 3, pages(1, 1, 2, 2, 3, 3, 4, 5, 6),
                "0: 6 | 3 2 | 5 4 | 1", 7, "0: 7 | 3 2 | 6 5 | 1");
    }

    /** "if a + d is c: .. and a page is put out": of row 1, as row 0 has just the goal. */
    private static void row2LosesItsTailAndRow1IsPutOut(Due due) {
        edge(due, 3, pages(1, 1, 2, 2, 3, 3, 4, 5, 6, 1, 4, 7),
                "1: 7 | 4 1 | 6 5 | 3", 8, "1: 8 7 | 4 | 6 | 1 3");
    }

    /** "if a + d is c: .. and a page is put out": of row 1, as row 0 has less than the goal. */
    private static void row2LosesItsTailBelowTheGoal(Due due) {
        edge(due, 6, pages(1, 1, 2, 2, 3, 4, 5, 6, 7, 3, 4, 5, 8, 9, 10, 6, 11, 1, 2, 12, 7, 13),
                "6: 13 12 11 10 9 | 7 | 8 | 2 1 6 5 4", 14,
                "6: 14 13 12 11 10 9 | - | - | 7 2 1 6 5 4");
    }

    /** "If a + d is below c and a + b + d + e at least c": with c - 1 nothing goes. */
    private static void nothingIsPutOutBelowTheCapacity(Due due) {
        edge(due, 3, pages(1, 1, 2),
                "0: 2 | 1 | - | -", 3, "0: 3 2 | 1 | - | -");
    }

    /** "If a + d is below c and a + b + d + e at least c": just c. */
    private static void onePageIsPutOutAtTheCapacity(Due due) {
        edge(due, 3, pages(1, 1, 2, 3),
                "0: 3 2 | 1 | - | -", 4, "0: 4 3 | 1 | 2 | -");
    }

    /** "If a + d is below c and a + b + d + e at least c": just c, and that is 1. */
    private static void onePageIsPutOutAtTheCapacityOfOne(Due due) {
        edge(due, 1, pages(1, 1),
                "0: - | 1 | - | -", 2, "0: 2 | - | - | 1");
    }

    /** "when that is 2 * c, the tail of row 3 leaves it": with 2 * c - 1 it stays. */
    private static void row3KeepsItsTailBelowTwiceTheCapacity(Due due) {
        edge(due, 3, pages(1, 1, 2, 2, 3, 3, 4, 5),
                "0: 5 | 3 2 | 4 | 1", 6, "0: 6 | 3 2 | 5 4 | 1");
    }

    /** "when that is 2 * c, the tail of row 3 leaves it; a page is put out." */
    private static void row3LosesItsTailAtTwiceTheCapacity(Due due) {
        edge(due, 3, pages(1, 1, 2, 2, 3, 3, 4, 4, 5, 6),
                "0: 6 | 4 3 | 5 | 2 1", 7, "0: 7 | 4 3 | 6 5 | 2");
    }

    /** "when that is 2 * c, the tail of row 3 leaves it; a page is put out.": of row 1. */
    private static void row3LosesItsTailAndGetsAnother(Due due) {
        edge(due, 2, pages(1, 1, 2, 2, 3, 3, 4, 4),
                "0: - | 4 3 | - | 2 1", 5, "0: 5 | 4 | - | 3 2");
    }

    /** "when that is 2 * c, the tail of row 3 leaves it": its only page, with a capacity of 1. */
    private static void row3LosesItsOnlyPage(Due due) {
        edge(due, 1, pages(1, 1, 2, 2),
                "0: - | 2 | - | 1", 3, "0: 3 | - | - | 2");
    }

    /** "To PUT OUT a page: if row 0 has pages": it has none, and x is in no row. */
    private static void putsOutOfRow1WhenRowZeroIsEmpty(Due due) {
        edge(due, 2, pages(1, 1, 2, 2),
                "0: - | 2 1 | - | -", 3, "0: 3 | 2 | - | 1");
    }

    /** "To PUT OUT a page: if row 0 has pages": it has none, and x is in row 2. */
    private static void putsOutOfRow1WhenRowZeroIsEmptyForRow2(Due due) {
        edge(due, 3, pages(1, 1, 2, 2, 3, 4, 4),
                "0: - | 4 2 1 | 3 | -", 3, "1: - | 3 4 2 | - | 1");
    }

    /**
     * "if row 0 has pages, and (.. just goal, and x is in row 3)": it has none, and the goal is 0.
     */
    private static void putsOutOfRow1WhenRowZeroIsEmptyForRow3(Due due) {
        edge(due, 3, pages(1, 1, 2, 2, 3, 3, 4, 4),
                "0: - | 4 3 2 | - | 1", 1, "0: - | 1 4 3 | - | 2");
    }

    /** "(more than goal, or just goal, and x is in row 3)": goal + 1, x in no row. */
    private static void putsOutOfRowZeroAboveTheGoal(Due due) {
        edge(due, 3, pages(1, 1, 2, 2, 3, 4, 3, 5),
                "1: 5 4 | 3 | - | 2 1", 6, "1: 6 5 | 3 | 4 | 2 1");
    }

    /** "(more than goal, or just goal, and x is in row 3)": goal + 1, x in row 2. */
    private static void putsOutOfRowZeroAboveTheGoalForRow2(Due due) {
        edge(due, 3, pages(1, 1, 2, 3, 4),
                "0: 4 3 | 1 | 2 | -", 2, "1: 4 | 2 1 | 3 | -");
    }

    /** "(more than goal, or just goal, and x is in row 3)": goal + 1, x in row 3. */
    private static void putsOutOfRowZeroAboveTheGoalForRow3(Due due) {
        edge(due, 3, pages(1, 1, 2, 2, 3, 4, 3),
                "1: 4 | 3 2 | - | 1", 1, "0: - | 1 3 2 | 4 | -");
    }

    /** "(more than goal, or just goal, and x is in row 3)": just goal, x in no row. */
    private static void putsOutOfRow1AtTheGoal(Due due) {
        edge(due, 3, pages(1, 1, 2, 3, 4, 2),
                "1: 4 | 2 1 | 3 | -", 5, "1: 5 4 | 2 | 3 | 1");
    }

    /** "(more than goal, or just goal, and x is in row 3)": just goal, x in row 2. */
    private static void putsOutOfRow1AtTheGoalForRow2(Due due) {
        edge(due, 3, pages(1, 1, 2, 2, 3, 4),
                "0: 4 | 2 1 | 3 | -", 3, "1: 4 | 3 2 | - | 1");
    }

    /** "(more than goal, or just goal, and x is in row 3)": just goal, x in row 3. */
    private static void putsOutOfRowZeroAtTheGoalForRow3(Due due) {
        edge(due, 3, pages(1, 1, 2, 3, 4, 2, 3),
                "2: 4 | 3 2 | - | 1", 1, "1: - | 1 3 2 | 4 | -");
    }

    /** "(more than goal, or just goal, and x is in row 3)": goal - 1, x in no row. */
    private static void putsOutOfRow1BelowTheGoal(Due due) {
        edge(due, 3, pages(1, 1, 2, 3, 4, 2, 3),
                "2: 4 | 3 2 | - | 1", 5, "2: 5 4 | 3 | - | 2 1");
    }

    /** "(more than goal, or just goal, and x is in row 3)": goal - 1, x in row 2. */
    private static void putsOutOfRow1BelowTheGoalForRow2(Due due) {
        edge(due, 3, pages(1, 1, 2, 3, 4, 2),
                "1: 4 | 2 1 | 3 | -", 3, "2: 4 | 3 2 | - | 1");
    }

    /** "(more than goal, or just goal, and x is in row 3)": goal - 1, x in row 3. */
    private static void putsOutOfRow1BelowTheGoalForRow3(Due due) {
        edge(due, 3, pages(1, 1, 2, 2, 3, 3, 4, 5, 6, 5, 4),
                "3: 6 | 4 5 | - | 3 2 1", 3, "2: 6 | 3 4 | - | 5 2 1");
    }

    /** "its tail is the victim and comes to the head of row 2": row 0 is empty then, with c = 1. */
    private static void putsOutTheOnlyPageOfRowZero(Due due) {
        edge(due, 1, pages(1, 1, 2),
                "0: 2 | - | - | 1", 1, "0: - | 1 | 2 | -");
    }

    /** "the tail of row 1 is the victim and comes to the head of row 3": row 1 had no other. */
    private static void putsOutTheOnlyPageOfRow1(Due due) {
        edge(due, 1, pages(1, 1, 2, 1),
                "0: - | 1 | 2 | -", 2, "1: - | 2 | - | 1");
    }
}

/**
 * The Terms of policies 0, RECENT, and 1, CLOCK, at their edges. Each test is of one sentence of
 * the document, which stands above it.
 */
public final class EdgesOfRecentAndClockTest {
    public static void main(String[] args) {
        Due due = new Due();
        recentHitAtTheHead(due);
        recentHitAtTheTail(due);
        recentHitInAFullRow(due);
        recentMissBelowCapacity(due);
        recentMissAtCapacity(due);
        recentOfOne(due);
        recentOfSixteen(due);
        clockHitStaysWhereItIs(due);
        clockHitOfAMarkedPage(due);
        clockMissBelowCapacitySparesNoMark(due);
        clockMissWithNoMark(due);
        clockMissWithOneMarkedAtTheHead(due);
        clockMissStopsAtTheFirstNotMarked(due);
        clockMissWithAllMarked(due);
        clockOfOne(due);
        clockOfSixteenAllMarked(due);
        clockPageComesNotMarked(due);
        clockPageComesBackNotMarked(due);
        due.end();
    }

    private static TwoTierCache of(int policy, int capacity, int... pages) {
        TwoTierCache cache = new TwoTierCache();
        cache.begin(policy, capacity, 0, 16);
        Due.read(cache, pages);
        return cache;
    }

    /** RECENT, "A hit: x comes to the head.": the page that is there already. */
    private static void recentHitAtTheHead(Due due) {
        TwoTierCache cache = of(0, 3, 1, 2, 3);
        due.is("access(3)", cache.access(3, false), 0);
        due.rows("access(3)", cache, 0, "3 2 1 | - | - | -");
    }

    /** RECENT, "A hit: x comes to the head.": the tail, and then the page that is the tail now. */
    private static void recentHitAtTheTail(Due due) {
        TwoTierCache cache = of(0, 3, 1, 2, 3);
        due.is("access(1)", cache.access(1, false), 0);
        due.rows("access(1)", cache, 0, "1 3 2 | - | - | -");
        due.is("access(2)", cache.access(2, true), 0);
        due.rows("access(2)", cache, 0, "2 1 3 | - | - | -");
    }

    /** RECENT, "A miss: if there are c pages in the row": at a hit nothing leaves a full row. */
    private static void recentHitInAFullRow(Due due) {
        TwoTierCache cache = of(0, 2, 1, 2);
        due.is("access(1)", cache.access(1, false), 0);
        due.rows("access(1)", cache, 0, "1 2 | - | - | -");
    }

    /** RECENT, "A miss: if there are c pages in the row": with c - 1 there is no victim. */
    private static void recentMissBelowCapacity(Due due) {
        TwoTierCache cache = of(0, 3, 1, 2);
        due.is("access(3)", cache.access(3, false), 2);
        due.rows("access(3)", cache, 0, "3 2 1 | - | - | -");
    }

    /** RECENT, "if there are c pages in the row, the tail is the victim and leaves it". */
    private static void recentMissAtCapacity(Due due) {
        TwoTierCache cache = of(0, 3, 1, 2, 3);
        due.is("access(4)", cache.access(4, false), 2);
        due.rows("access(4)", cache, 0, "4 3 2 | - | - | -");
        due.residents(cache, 0, 2, 3, 4);
    }

    /** RECENT, the same with a capacity of 1: head and tail are the one page. */
    private static void recentOfOne(Due due) {
        TwoTierCache cache = of(0, 1, 1);
        due.is("access(1)", cache.access(1, false), 0);
        due.rows("access(1)", cache, 0, "1 | - | - | -");
        due.is("access(2)", cache.access(2, false), 2);
        due.rows("access(2)", cache, 0, "2 | - | - | -");
    }

    /** RECENT, the same with a capacity of 16. */
    private static void recentOfSixteen(Due due) {
        TwoTierCache cache = of(0, 16, 1, 2, 3, 4, 5, 6, 7, 8, 9, 10, 11, 12, 13, 14, 15, 16);
        due.rows("16 pages", cache, 0, "16 15 14 13 12 11 10 9 8 7 6 5 4 3 2 1 | - | - | -");
        Due.read(cache, 17);
        due.rows("page 17", cache, 0, "17 16 15 14 13 12 11 10 9 8 7 6 5 4 3 2 | - | - | -");
        Due.read(cache, 2);
        due.rows("page 2", cache, 0, "2 17 16 15 14 13 12 11 10 9 8 7 6 5 4 3 | - | - | -");
    }

    /** CLOCK, "A hit: x is marked, and stays where it is.": the head, and the tail. */
    private static void clockHitStaysWhereItIs(Due due) {
        TwoTierCache cache = of(1, 3, 1, 2, 3);
        due.is("access(1)", cache.access(1, false), 0);
        due.rows("access(1)", cache, 0, "1 2 3 | - | - | -");
        due.markedPages(cache, 0, 1);
        due.is("access(3)", cache.access(3, true), 0);
        due.rows("access(3)", cache, 0, "1 2 3 | - | - | -");
        due.markedPages(cache, 0, 1, 3);
    }

    /** CLOCK, "A hit: x is marked": a page that is marked stays so at the next hit. */
    private static void clockHitOfAMarkedPage(Due due) {
        TwoTierCache cache = of(1, 3, 1, 2, 2, 2);
        due.rows("2 again", cache, 0, "1 2 | - | - | -");
        due.markedPages(cache, 0, 2);
    }

    /** CLOCK, "if there are c pages, then as long as the head is marked": not with c - 1. */
    private static void clockMissBelowCapacitySparesNoMark(Due due) {
        TwoTierCache cache = of(1, 3, 1, 2, 1, 2);
        due.is("access(3)", cache.access(3, false), 2);
        due.rows("access(3)", cache, 0, "1 2 3 | - | - | -");
        due.markedPages(cache, 0, 1, 2);
    }

    /** CLOCK, "as long as the head is marked": it is not, so the head is the victim at once. */
    private static void clockMissWithNoMark(Due due) {
        TwoTierCache cache = of(1, 3, 1, 2, 3, 2, 3);
        due.is("access(4)", cache.access(4, false), 2);
        due.rows("access(4)", cache, 0, "2 3 4 | - | - | -");
        due.markedPages(cache, 0, 2, 3);
    }

    /** CLOCK, "as long as the head is marked, it is unmarked and comes to the tail". */
    private static void clockMissWithOneMarkedAtTheHead(Due due) {
        TwoTierCache cache = of(1, 3, 1, 2, 3, 1);
        due.is("access(4)", cache.access(4, false), 2);
        due.rows("access(4)", cache, 0, "3 1 4 | - | - | -");
        due.markedPages(cache, 0);
        due.residents(cache, 0, 1, 3, 4);
    }

    /** CLOCK, "then the head is the victim": marked pages behind it stay marked in their places. */
    private static void clockMissStopsAtTheFirstNotMarked(Due due) {
        TwoTierCache cache = of(1, 4, 1, 2, 3, 4, 1, 3, 4);
        due.is("access(5)", cache.access(5, false), 2);
        due.rows("access(5)", cache, 0, "3 4 1 5 | - | - | -");
        due.markedPages(cache, 0, 3, 4);
    }

    /** CLOCK, "as long as the head is marked": all are, so the first head is the victim. */
    private static void clockMissWithAllMarked(Due due) {
        TwoTierCache cache = of(1, 3, 1, 2, 3, 3, 2, 1);
        due.is("access(4)", cache.access(4, false), 2);
        due.rows("access(4)", cache, 0, "2 3 4 | - | - | -");
        due.markedPages(cache, 0);
        due.residents(cache, 0, 2, 3, 4);
    }

    /** CLOCK, the same with a capacity of 1: the one page comes to the tail, and is the head. */
    private static void clockOfOne(Due due) {
        TwoTierCache cache = of(1, 1, 1, 1);
        due.markedPages(cache, 0, 1);
        due.is("access(2)", cache.access(2, false), 2);
        due.rows("access(2)", cache, 0, "2 | - | - | -");
        due.markedPages(cache, 0);
        due.is("access(3)", cache.access(3, false), 2);
        due.rows("access(3)", cache, 0, "3 | - | - | -");
    }

    /** CLOCK, the same with a capacity of 16, all marked, the first page last. */
    private static void clockOfSixteenAllMarked(Due due) {
        TwoTierCache cache = of(1, 16, 1, 2, 3, 4, 5, 6, 7, 8, 9, 10, 11, 12, 13, 14, 15, 16);
        Due.read(cache, 16, 15, 14, 13, 12, 11, 10, 9, 8, 7, 6, 5, 4, 3, 2, 1);
        Due.read(cache, 17);
        due.rows("page 17", cache, 0, "2 3 4 5 6 7 8 9 10 11 12 13 14 15 16 17 | - | - | -");
        due.markedPages(cache, 0);
    }

    /** CLOCK, "x comes to the tail, not marked": into an empty row, and into one that has room. */
    private static void clockPageComesNotMarked(Due due) {
        TwoTierCache cache = of(1, 3, 1);
        due.rows("page 1", cache, 0, "1 | - | - | -");
        due.markedPages(cache, 0);
        due.is("access(2, true)", cache.access(2, true), 2);
        due.rows("page 2", cache, 0, "1 2 | - | - | -");
        due.markedPages(cache, 0);
    }

    /** CLOCK, "not marked (also if it was marked before it left)". */
    private static void clockPageComesBackNotMarked(Due due) {
        TwoTierCache cache = of(1, 2, 1, 2, 1, 2);
        due.markedPages(cache, 0, 1, 2);
        Due.read(cache, 3);
        due.rows("page 3", cache, 0, "2 3 | - | - | -");
        due.is("access(1)", cache.access(1, false), 1);
        due.rows("access(1)", cache, 0, "3 1 | - | - | -");
        due.markedPages(cache, 0);
    }
}

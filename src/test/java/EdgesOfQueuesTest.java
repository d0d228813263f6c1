/**
 * The Terms of policy 2, QUEUES, at their edges. Each test is of one sentence of the document,
 * which stands above it.
 */
public final class EdgesOfQueuesTest {
    // c / 4 and c / 2 for c = 1 .. 16, rounded down, the second at least 1: written out by hand.
    private static final int[] QUARTER = {0, 0, 0, 1, 1, 1, 1, 2, 2, 2, 2, 3, 3, 3, 3, 4};
    private static final int[] HALF = {1, 1, 1, 2, 2, 3, 3, 4, 4, 5, 5, 6, 6, 7, 7, 8};

    public static void main(String[] args) {
        Due due = new Due();
        headOfRow2StaysHead(due);
        tailOfRow2ComesToTheHead(due);
        rowZeroIsNotChanged(due);
        headOfRow1ComesToRow2(due);
        tailOfRow1ComesToRow2(due);
        onlyPageOfRow1ComesToRow2(due);
        leavesRow1BeforeRoomIsMade(due);
        noRoomIsMadeBelowCapacity(due);
        roomIsMadeAtCapacityOfBothRows(due);
        moreThanAQuarterForEachCapacity(due);
        justAQuarterForEachCapacity(due);
        belowFourAQuarterIsNone(due);
        victimOfRow2IsInNoRow(due);
        row1KeepsHalfForEachCapacity(due);
        row1KeepsAtLeastOne(due);
        due.end();
    }

    private static TwoTierCache of(int capacity, int... pages) {
        TwoTierCache cache = new TwoTierCache();
        cache.begin(2, capacity, 0, 16);
        Due.read(cache, pages);
        return cache;
    }

    /** "x is in row 2: it comes to the head of that.": the head. */
    private static void headOfRow2StaysHead(Due due) {
        TwoTierCache cache = of(4, 1, 2, 3, 4, 5, 6, 1, 2);
        due.rows("before", cache, 0, "6 5 | 4 3 | 2 1 | -");
        due.is("access(2)", cache.access(2, false), 0);
        due.rows("access(2)", cache, 0, "6 5 | 4 3 | 2 1 | -");
    }

    /** "x is in row 2: it comes to the head of that.": the tail. */
    private static void tailOfRow2ComesToTheHead(Due due) {
        TwoTierCache cache = of(4, 1, 2, 3, 4, 5, 6, 1, 2);
        due.is("access(1)", cache.access(1, false), 0);
        due.rows("access(1)", cache, 0, "6 5 | 4 3 | 1 2 | -");
    }

    /** "In row 0: nothing is changed.": the tail, the head, and by writing. */
    private static void rowZeroIsNotChanged(Due due) {
        TwoTierCache cache = of(4, 1, 2, 3, 4, 5, 6);
        due.is("access(3)", cache.access(3, false), 0);
        due.rows("access(3)", cache, 0, "6 5 4 3 | 2 1 | - | -");
        due.is("access(6)", cache.access(6, false), 0);
        due.rows("access(6)", cache, 0, "6 5 4 3 | 2 1 | - | -");
        due.is("access(4, true)", cache.access(4, true), 0);
        due.rows("access(4, true)", cache, 0, "6 5 4 3 | 2 1 | - | -");
        Due.read(cache, 7);
        due.rows("page 7", cache, 0, "7 6 5 4 | 3 2 | - | -");
    }

    /** "In row 1: x leaves it, ROOM is made, and x comes to the head of row 2.": the head. */
    private static void headOfRow1ComesToRow2(Due due) {
        TwoTierCache cache = of(4, 1, 2, 3, 4, 5, 6);
        due.is("access(2)", cache.access(2, false), 1);
        due.rows("access(2)", cache, 0, "6 5 4 | 3 1 | 2 | -");
    }

    /** "In row 1: x leaves it, ROOM is made, and x comes to the head of row 2.": the tail. */
    private static void tailOfRow1ComesToRow2(Due due) {
        TwoTierCache cache = of(4, 1, 2, 3, 4, 5, 6);
        due.is("access(1)", cache.access(1, false), 1);
        due.rows("access(1)", cache, 0, "6 5 4 | 3 2 | 1 | -");
    }

    /** "In row 1: x leaves it": row 1 is empty then, and stays so when row 2 has the victim. */
    private static void onlyPageOfRow1ComesToRow2(Due due) {
        TwoTierCache cache = of(1, 1, 2, 1);
        due.rows("before", cache, 0, "- | 2 | 1 | -");
        due.is("access(2)", cache.access(2, false), 1);
        due.rows("access(2)", cache, 0, "- | - | 2 | -");
    }

    /** "In row 1: x leaves it, ROOM is made": the victim finds a place in the full row 1. */
    private static void leavesRow1BeforeRoomIsMade(Due due) {
        TwoTierCache cache = of(6, 1, 2, 3, 4, 5, 6, 7, 8, 9);
        due.rows("before", cache, 0, "9 8 7 6 5 4 | 3 2 1 | - | -");
        due.is("access(2)", cache.access(2, false), 1);
        due.rows("access(2)", cache, 0, "9 8 7 6 5 | 4 3 1 | 2 | -");
    }

    /** "To make ROOM: if there are c pages in rows 0 and 2 together": with c - 1 nothing goes. */
    private static void noRoomIsMadeBelowCapacity(Due due) {
        TwoTierCache cache = of(3, 1, 2);
        due.rows("before", cache, 0, "2 1 | - | - | -");
        due.is("access(3)", cache.access(3, false), 2);
        due.rows("access(3)", cache, 0, "3 2 1 | - | - | -");
    }

    /** "if there are c pages in rows 0 and 2 together": neither of them has c alone. */
    private static void roomIsMadeAtCapacityOfBothRows(Due due) {
        TwoTierCache cache = of(4, 1, 2, 3, 4, 5, 6, 1, 2);
        due.rows("before", cache, 0, "6 5 | 4 3 | 2 1 | -");
        due.is("access(7)", cache.access(7, false), 2);
        due.rows("access(7)", cache, 0, "7 6 | 5 4 | 2 1 | -");
    }

    /** Leaves just pages in row 0 of a tier of this capacity, and the others in row 2. */
    private static TwoTierCache withInRowZero(int capacity, int pages) {
        TwoTierCache cache = of(capacity);
        for (int page = 0; page <= capacity; page++) {
            cache.access(page, false);
        }
        // The page that went out last comes back to row 2, and row 0 loses its tail for it.
        for (int left = capacity; left > pages; left--) {
            cache.access(cache.row(0, 1, 0), false);
        }
        return cache;
    }

    /** "if row 0 has more than c / 4 (rounded down ..), its tail is the victim": with c / 4 + 1. */
    private static void moreThanAQuarterForEachCapacity(Due due) {
        for (int c = 1; c <= 16; c++) {
            int pages = QUARTER[c - 1] + 1;
            TwoTierCache cache = withInRowZero(c, pages);
            String call = "row 0 has " + pages + " of " + c;
            due.is(call, cache.row(0, 0, pages), TwoTierCache.NONE);
            int tail = cache.row(0, 0, pages - 1);
            int tailOfRow2 = cache.row(0, 2, c - pages - 1);
            Due.read(cache, 40);
            due.is(call + ", victim", cache.resident(0, tail), false);
            due.is(call + ", head of row 1", cache.row(0, 1, 0), tail);
            due.is(call + ", head of row 0", cache.row(0, 0, 0), 40);
            due.is(call + ", beyond row 0", cache.row(0, 0, pages), TwoTierCache.NONE);
            due.is(call + ", tail of row 2", cache.row(0, 2, c - pages - 1), tailOfRow2);
        }
    }

    /** "more than c / 4 ..; otherwise the tail of row 2 is the victim.": with just c / 4. */
    private static void justAQuarterForEachCapacity(Due due) {
        for (int c = 1; c <= 16; c++) {
            int pages = QUARTER[c - 1];
            TwoTierCache cache = withInRowZero(c, pages);
            String call = "row 0 has " + pages + " of " + c;
            due.is(call, cache.row(0, 0, pages), TwoTierCache.NONE);
            int tailOfRow2 = cache.row(0, 2, c - pages - 1);
            int headOfRow1 = cache.row(0, 1, 0);
            Due.read(cache, 40);
            due.is(call + ", victim", cache.resident(0, tailOfRow2), false);
            due.is(call + ", beyond row 2", cache.row(0, 2, c - pages - 1), TwoTierCache.NONE);
            due.is(call + ", head of row 1", cache.row(0, 1, 0), headOfRow1);
            due.is(call + ", head of row 0", cache.row(0, 0, 0), 40);
            due.is(call + ", beyond row 0", cache.row(0, 0, pages + 1), TwoTierCache.NONE);
        }
    }

    /** "rounded down, so 0 for c below 4": one page in row 0 goes out, none lets row 2 lose one. */
    private static void belowFourAQuarterIsNone(Due due) {
        TwoTierCache cache = of(3, 1, 2, 3, 4, 1, 2, 5);
        due.rows("before", cache, 0, "5 | 4 | 2 1 | -");
        due.is("access(6)", cache.access(6, false), 2);
        due.rows("access(6)", cache, 0, "6 | 5 | 2 1 | -");
        due.is("access(5)", cache.access(5, false), 1);
        due.rows("access(5)", cache, 0, "- | 6 | 5 2 1 | -");
        due.is("access(7)", cache.access(7, false), 2);
        due.rows("access(7)", cache, 0, "7 | 6 | 5 2 | -");
    }

    /** "otherwise the tail of row 2 is the victim.": it is in no row, and comes in anew. */
    private static void victimOfRow2IsInNoRow(Due due) {
        TwoTierCache cache = of(2, 1, 2, 3, 1, 2);
        due.rows("before", cache, 0, "- | 3 | 2 1 | -");
        Due.read(cache, 4);
        due.rows("page 4", cache, 0, "4 | 3 | 2 | -");
        due.is("access(1)", cache.access(1, false), 1);
        due.rows("access(1)", cache, 0, "1 | 4 | 2 | -");
    }

    /** "whose tail leaves that if it has then more than half of c (rounded down ..) pages". */
    private static void row1KeepsHalfForEachCapacity(Due due) {
        for (int c = 1; c <= 16; c++) {
            TwoTierCache cache = of(c);
            int half = HALF[c - 1];
            for (int page = 0; page < c + half; page++) {
                cache.access(page, false);
            }
            String call = "row 1 of " + c;
            due.is(call + ", just half", cache.row(0, 1, half - 1), 0);
            due.is(call + ", beyond half", cache.row(0, 1, half), TwoTierCache.NONE);
            cache.access(c + half, false);
            due.is(call + ", one more", cache.row(0, 1, half - 1), 1);
            due.is(call + ", beyond one more", cache.row(0, 1, half), TwoTierCache.NONE);
            // What left row 1 is in no row: it comes to row 0.
            cache.access(0, false);
            due.is(call + ", left", cache.row(0, 0, 0), 0);
            due.is(call + ", row 2", cache.row(0, 2, 0), TwoTierCache.NONE);
        }
    }

    /** "more than half of c (rounded down, at least 1) pages": half of 1 is none, but one stays. */
    private static void row1KeepsAtLeastOne(Due due) {
        TwoTierCache cache = of(1, 1, 2);
        due.rows("page 2", cache, 0, "2 | 1 | - | -");
        Due.read(cache, 3);
        due.rows("page 3", cache, 0, "3 | 2 | - | -");
        due.is("access(2)", cache.access(2, false), 1);
        due.rows("access(2)", cache, 0, "- | 3 | 2 | -");
    }
}

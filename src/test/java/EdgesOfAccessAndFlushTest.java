/**
 * Promises 3 and 4, access and flush, at their edges. Each test is of one sentence of the
 * document, which stands above it.
 */
public final class EdgesOfAccessAndFlushTest {
    public static void main(String[] args) {
        Due due = new Due();
        accessOfNoPage(due);
        accessOfAHit(due);
        accessOfAHitInTierOne(due);
        accessOfAMissInBoth(due);
        accessOfAPageGoneOutOfTierZero(due);
        accessOfAPageGoneOutOfTierOne(due);
        accessOfAMissWhoseVictimIsAHit(due);
        accessOfAHitWhoseVictimIsAMiss(due);
        accessForWritingIsDirtyThereNoMore(due);
        flushOfANewObject(due);
        flushWithNothingDirty(due);
        flushWithTierZeroDirtyOnly(due);
        flushWithTierOneDirtyOnly(due);
        flushWithOnePageDirtyInBoth(due);
        flushTakesTheLeastFirst(due);
        flushTakesPageZeroFirstAndPage63Last(due);
        flushWritesPageZeroAndPage63OfTierOne(due);
        flushCountsVictimsOnTheWay(due);
        flushCountsAllVictimsOnTheWay(due);
        flushCountsAVictimThatComesBack(due);
        flushSendsSixteenThroughOne(due);
        flushTouchesTierOneAsItsPolicySays(due);
        flushTouchesBalancedAsItsPolicySays(due);
        flushLeavesTierZeroAsItIs(due);
        flushKeepsPagesOfTierOneResident(due);
        flushAgainWritesNothing(due);
        due.end();
    }

    private static TwoTierCache recent(int capacity0, int capacity1) {
        TwoTierCache cache = new TwoTierCache();
        cache.begin(0, capacity0, 0, capacity1);
        return cache;
    }

    /** "NONE when there is no such page": below 0 and above 63, to read and to write. */
    private static void accessOfNoPage(Due due) {
        TwoTierCache cache = recent(1, 1);
        int[] none = {-1, 64, -2, 65, -64, 128, Integer.MIN_VALUE, Integer.MAX_VALUE};
        for (int page : none) {
            due.is("access(" + page + ", false)", cache.access(page, false), TwoTierCache.NONE);
            due.is("access(" + page + ", true)", cache.access(page, true), TwoTierCache.NONE);
        }
        due.is("access(0, false)", cache.access(0, false), 2);
        due.is("access(63, true)", cache.access(63, true), 2);
    }

    /** "Answers 0 for a hit there": to read and to write, also when tier 1 has lost the page. */
    private static void accessOfAHit(Due due) {
        TwoTierCache cache = recent(2, 1);
        Due.read(cache, 1);
        due.is("access(1, false)", cache.access(1, false), 0);
        due.is("access(1, true)", cache.access(1, true), 0);
        Due.read(cache, 2);
        due.is("resident(1, 1)", cache.resident(1, 1), false);
        due.is("access(1, false)", cache.access(1, false), 0);
    }

    /** "1 when it missed and the page it asked tier 1 for .. was a hit": to read and to write. */
    private static void accessOfAHitInTierOne(Due due) {
        TwoTierCache cache = recent(1, 2);
        Due.read(cache, 1, 2);
        due.is("access(1, false)", cache.access(1, false), 1);
        due.is("access(2, true)", cache.access(2, true), 1);
    }

    /** "2 when that missed, too": to read and to write, and of a page that tier 1 has lost. */
    private static void accessOfAMissInBoth(Due due) {
        TwoTierCache cache = recent(1, 1);
        due.is("access(1, false)", cache.access(1, false), 2);
        due.is("access(2, true)", cache.access(2, true), 2);
        due.is("access(1, false)", cache.access(1, false), 2);
    }

    /** "1 when it missed": of a page in a row of those gone out of tier 0. */
    private static void accessOfAPageGoneOutOfTierZero(Due due) {
        TwoTierCache cache = new TwoTierCache();
        cache.begin(2, 1, 0, 4);
        Due.read(cache, 1, 2);
        due.rows("before", cache, 0, "2 | 1 | - | -");
        due.is("access(1)", cache.access(1, false), 1);
    }

    /** "2 when that missed, too": of a page in a row of those gone out of tier 1. */
    private static void accessOfAPageGoneOutOfTierOne(Due due) {
        TwoTierCache cache = new TwoTierCache();
        cache.begin(0, 1, 2, 1);
        Due.read(cache, 1, 2);
        due.rows("before", cache, 1, "2 | 1 | - | -");
        due.is("access(1)", cache.access(1, false), 2);
        due.is("reads()", cache.reads(), 3);
    }

    /** "the page it asked tier 1 for (not the victim)": the victim is a hit, the page is not. */
    private static void accessOfAMissWhoseVictimIsAHit(Due due) {
        TwoTierCache cache = recent(1, 2);
        Due.write(cache, 1);
        due.is("access(2)", cache.access(2, false), 2);
        due.counts(cache, 1, 1, 2, 0);
    }

    /** "the page it asked tier 1 for (not the victim)": the victim is a miss, the page is not. */
    private static void accessOfAHitWhoseVictimIsAMiss(Due due) {
        TwoTierCache cache = recent(1, 1);
        Due.write(cache, 1, 2);
        due.rows("before", cache, 1, "1 | - | - | -");
        due.is("access(1)", cache.access(1, false), 1);
        due.counts(cache, 1, 1, 4, 1);
        due.rows("access(1)", cache, 1, "2 | - | - | -");
    }

    /** "(a page written is dirty there, no more)": not in tier 1, and not in the memory. */
    private static void accessForWritingIsDirtyThereNoMore(Due due) {
        TwoTierCache cache = recent(2, 2);
        Due.write(cache, 0, 63);
        due.dirtyPages(cache, 0, 0, 63);
        due.dirtyPages(cache, 1);
        due.is("writes()", cache.writes(), 0);
        due.counts(cache, 1, 0, 2, 0);
    }

    /** "Answers how many were written to the memory in all this": of no page at all. */
    private static void flushOfANewObject(Due due) {
        TwoTierCache cache = new TwoTierCache();
        due.is("flush()", cache.flush(), 0);
        due.counts(cache, 1, 0, 0, 0);
        due.is("writes()", cache.writes(), 0);
    }

    /** "Every dirty page of tier 0": there is none, so tier 1 is not asked for any. */
    private static void flushWithNothingDirty(Due due) {
        TwoTierCache cache = recent(2, 4);
        Due.read(cache, 1, 2, 3);
        due.is("flush()", cache.flush(), 0);
        due.rows("flush()", cache, 1, "3 2 1 | - | - | -");
        due.counts(cache, 1, 0, 3, 0);
        due.is("writes()", cache.writes(), 0);
    }

    /** "Every dirty page of tier 0 .. is not dirty any more there", nor in tier 1 then. */
    private static void flushWithTierZeroDirtyOnly(Due due) {
        TwoTierCache cache = recent(2, 4);
        Due.write(cache, 1, 2);
        due.dirtyPages(cache, 1);
        due.is("flush()", cache.flush(), 2);
        due.dirtyPages(cache, 0);
        due.dirtyPages(cache, 1);
        due.counts(cache, 1, 2, 2, 0);
        due.is("writes()", cache.writes(), 2);
    }

    /** "then every dirty page of tier 1 .. is not dirty any more, and is written to the memory". */
    private static void flushWithTierOneDirtyOnly(Due due) {
        TwoTierCache cache = recent(1, 4);
        Due.write(cache, 1, 2);
        Due.read(cache, 3);
        due.dirtyPages(cache, 0);
        due.counts(cache, 1, 2, 3, 0);
        due.is("flush()", cache.flush(), 2);
        due.dirtyPages(cache, 1);
        // No ask of tier 1 for its own pages.
        due.counts(cache, 1, 2, 3, 0);
        due.is("writes()", cache.writes(), 2);
    }

    /** "Answers how many were written to the memory": once a page that is dirty in both tiers. */
    private static void flushWithOnePageDirtyInBoth(Due due) {
        TwoTierCache cache = recent(1, 4);
        Due.write(cache, 1);
        Due.read(cache, 2);
        Due.write(cache, 1);
        due.is("dirty(0, 1)", cache.dirty(0, 1), true);
        due.is("dirty(1, 1)", cache.dirty(1, 1), true);
        due.is("flush()", cache.flush(), 1);
        due.is("writes()", cache.writes(), 1);
        due.dirtyPages(cache, 0);
        due.dirtyPages(cache, 1);
    }

    /** "Every dirty page of tier 0, the least first": not the head or the one written first. */
    private static void flushTakesTheLeastFirst(Due due) {
        TwoTierCache cache = recent(4, 4);
        Due.write(cache, 20, 5, 40, 12);
        due.rows("before", cache, 1, "12 40 5 20 | - | - | -");
        due.is("flush()", cache.flush(), 4);
        due.rows("flush()", cache, 1, "40 20 12 5 | - | - | -");
    }

    /** "Every dirty page of tier 0, the least first": from page 0 to page 63. */
    private static void flushTakesPageZeroFirstAndPage63Last(Due due) {
        TwoTierCache cache = recent(3, 2);
        Due.write(cache, 63, 0, 31);
        due.is("flush()", cache.flush(), 3);
        due.rows("flush()", cache, 1, "63 31 | - | - | -");
        due.dirtyPages(cache, 0);
        due.dirtyPages(cache, 1);
    }

    /** "then every dirty page of tier 1, the least first": from page 0 to page 63. */
    private static void flushWritesPageZeroAndPage63OfTierOne(Due due) {
        TwoTierCache cache = recent(1, 4);
        Due.write(cache, 0, 63, 1);
        due.dirtyPages(cache, 1, 0, 63);
        due.is("flush()", cache.flush(), 3);
        due.dirtyPages(cache, 0);
        due.dirtyPages(cache, 1);
        due.residents(cache, 1, 0, 1, 63);
    }

    /** "(victims of tier 1 on the way, too ..)": one page that was dirty there before. */
    private static void flushCountsVictimsOnTheWay(Due due) {
        TwoTierCache cache = recent(1, 1);
        Due.write(cache, 9, 1);
        due.rows("before", cache, 1, "9 | - | - | -");
        due.is("dirty(1, 9)", cache.dirty(1, 9), true);
        due.is("flush()", cache.flush(), 2);
        due.rows("flush()", cache, 1, "1 | - | - | -");
        due.counts(cache, 1, 0, 4, 1);
        due.is("writes()", cache.writes(), 2);
    }

    /** "(victims of tier 1 on the way, too ..)": one that was dirty there before, and two more. */
    private static void flushCountsAllVictimsOnTheWay(Due due) {
        TwoTierCache cache = recent(2, 1);
        Due.write(cache, 5, 1);
        Due.read(cache, 2);
        // Page 5 went down as a victim of tier 0, and is dirty in tier 1.
        due.dirtyPages(cache, 1, 5);
        Due.write(cache, 2);
        due.dirtyPages(cache, 0, 1, 2);
        due.is("flush()", cache.flush(), 3);
        due.rows("flush()", cache, 1, "2 | - | - | -");
        due.counts(cache, 1, 0, 6, 2);
        due.is("writes()", cache.writes(), 3);
    }

    /** "how many were written": page 5 as a victim on the way, and, come down again, at the end. */
    private static void flushCountsAVictimThatComesBack(Due due) {
        TwoTierCache cache = recent(2, 1);
        Due.write(cache, 5);
        Due.read(cache, 1, 2, 5);
        Due.write(cache, 5, 2);
        due.dirtyPages(cache, 0, 2, 5);
        due.dirtyPages(cache, 1, 5);
        due.is("writes()", cache.writes(), 0);
        due.is("flush()", cache.flush(), 3);
        due.rows("flush()", cache, 1, "5 | - | - | -");
        due.is("writes()", cache.writes(), 3);
    }

    /** "(victims of tier 1 on the way, too ..)": all but one of sixteen are such victims. */
    private static void flushSendsSixteenThroughOne(Due due) {
        TwoTierCache cache = recent(16, 1);
        for (int page = 48; page <= 63; page++) {
            cache.access(page, true);
        }
        due.counts(cache, 1, 0, 16, 0);
        due.is("flush()", cache.flush(), 16);
        due.rows("flush()", cache, 1, "63 | - | - | -");
        due.counts(cache, 0, 0, 16, 0);
        due.counts(cache, 1, 0, 32, 15);
        due.is("reads()", cache.reads(), 16);
        due.is("writes()", cache.writes(), 16);
    }

    /** "tier 1 is asked for it, for writing": a hit there is one by its policy, CLOCK. */
    private static void flushTouchesTierOneAsItsPolicySays(Due due) {
        TwoTierCache cache = new TwoTierCache();
        cache.begin(0, 2, 1, 2);
        Due.write(cache, 1);
        Due.read(cache, 2);
        due.markedPages(cache, 1);
        due.is("flush()", cache.flush(), 1);
        due.rows("flush()", cache, 1, "1 2 | - | - | -");
        due.markedPages(cache, 1, 1);
    }

    /** "tier 1 is asked for it, for writing": a page gone out comes back as BALANCED says. */
    private static void flushTouchesBalancedAsItsPolicySays(Due due) {
        TwoTierCache cache = new TwoTierCache();
        cache.begin(0, 4, 3, 2);
        Due.read(cache, 1);
        Due.write(cache, 2);
        cache.flush();
        due.balanced("page 2 is in row 1", cache, 1, "0: 1 | 2 | - | -");
        Due.read(cache, 3);
        due.balanced("page 1 went out", cache, 1, "0: 3 | 2 | 1 | -");
        Due.write(cache, 1);
        due.is("flush()", cache.flush(), 1);
        due.balanced("page 1 came back", cache, 1, "1: 3 | 1 | - | 2");
        due.is("reads()", cache.reads(), 3);
        due.is("writes()", cache.writes(), 2);
    }

    /** "pages stay resident": tier 0 is not touched, and counts neither hits nor victims. */
    private static void flushLeavesTierZeroAsItIs(Due due) {
        for (int policy = 0; policy < 4; policy++) {
            TwoTierCache cache = new TwoTierCache();
            cache.begin(policy, 3, 0, 1);
            Due.read(cache, 1, 2, 1);
            Due.write(cache, 2, 3, 4);
            String rows = Due.rowsOf(cache, 0);
            int hits = cache.count(0, 0);
            int misses = cache.count(0, 1);
            int victims = cache.count(0, 2);
            int goal = cache.goal(0);
            boolean marked = cache.marked(0, 2);
            cache.flush();
            due.rows("flush() by " + policy, cache, 0, rows);
            due.counts(cache, 0, hits, misses, victims);
            due.is("goal(0)", cache.goal(0), goal);
            due.is("marked(0, 2)", cache.marked(0, 2), marked);
            due.dirtyPages(cache, 0);
        }
    }

    /** "pages stay resident": those of tier 1 that no other one put out. */
    private static void flushKeepsPagesOfTierOneResident(Due due) {
        TwoTierCache cache = recent(2, 4);
        Due.write(cache, 1, 2, 3, 4);
        due.is("flush()", cache.flush(), 4);
        due.residents(cache, 0, 3, 4);
        due.residents(cache, 1, 1, 2, 3, 4);
    }

    /** "is not dirty any more": a second flush() has nothing to write, nor have victims. */
    private static void flushAgainWritesNothing(Due due) {
        TwoTierCache cache = recent(1, 1);
        Due.write(cache, 1, 2);
        due.is("flush()", cache.flush(), 2);
        due.is("flush()", cache.flush(), 0);
        Due.read(cache, 3, 4);
        due.is("flush()", cache.flush(), 0);
        due.is("writes()", cache.writes(), 2);
    }
}

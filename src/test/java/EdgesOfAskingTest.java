/**
 * The Terms of asking a tier, and of refused calls, at their edges. Each test is of one sentence
 * of the document, which stands above it.
 */
public final class EdgesOfAskingTest {
    private static final int MIN = Integer.MIN_VALUE;
    private static final int MAX = Integer.MAX_VALUE;

    public static void main(String[] args) {
        Due due = new Due();
        hitInTierZeroAsksTierOneNothing(due);
        missInTierZeroAsksTierOneForReading(due);
        missInTierOneIsReadFromTheMemory(due);
        hitInTierOneReadsNothing(due);
        bringsInBeforeTheVictimGoesDown(due);
        bringsInBeforeTheVictimComesBackInTierOne(due);
        missForWritingInTierOneReadsNothing(due);
        missForWritingByFlushReadsNothing(due);
        missForWritingInTierZeroBringsIn(due);
        cleanVictimDoesNotGoDown(due);
        dirtyVictimGoesDownAndIsNotDirtyAnyMore(due);
        dirtyVictimGoneOutIsNotDirtyAnyMore(due);
        dirtyVictimIsAskedForByWriting(due);
        cleanVictimOfTierOneIsNotWritten(due);
        dirtyVictimOfTierOneIsWrittenOnce(due);
        writingMakesDirtyAtAMissAndAtAHit(due);
        readingLeavesDirtinessAsItIs(due);
        readingInTierOneLeavesDirtinessAsItIs(due);
        touchesThenBringsInThenVictimThenDirtiness(due);
        refusedBeginChangesNothing(due);
        refusedAccessChangesNothing(due);
        looksAtWhatIsNotThereChangeNothing(due);
        due.end();
    }

    private static TwoTierCache recent(int capacity0, int capacity1) {
        TwoTierCache cache = new TwoTierCache();
        cache.begin(0, capacity0, 0, capacity1);
        return cache;
    }

    private static void memory(Due due, TwoTierCache cache, int reads, int writes) {
        due.is("reads()", cache.reads(), reads);
        due.is("writes()", cache.writes(), writes);
    }

    /** "A miss for reading brings the page in": a hit does not, so tier 1 is not touched. */
    private static void hitInTierZeroAsksTierOneNothing(Due due) {
        TwoTierCache cache = recent(2, 4);
        Due.read(cache, 1, 2);
        due.rows("before", cache, 1, "2 1 | - | - | -");
        due.is("access(1)", cache.access(1, false), 0);
        due.is("access(1, true)", cache.access(1, true), 0);
        due.rows("access(1)", cache, 1, "2 1 | - | - | -");
        due.counts(cache, 1, 0, 2, 0);
        memory(due, cache, 2, 0);
    }

    /** "tier 0 asks tier 1 for it, for reading": it is touched there, and not dirty. */
    private static void missInTierZeroAsksTierOneForReading(Due due) {
        TwoTierCache cache = recent(1, 4);
        Due.read(cache, 1, 2);
        due.rows("before", cache, 1, "2 1 | - | - | -");
        due.is("access(1)", cache.access(1, false), 1);
        due.rows("access(1)", cache, 1, "1 2 | - | - | -");
        due.counts(cache, 1, 1, 2, 0);
        due.dirtyPages(cache, 1);
    }

    /** "tier 1 reads it from the memory": one page at each miss for reading. */
    private static void missInTierOneIsReadFromTheMemory(Due due) {
        TwoTierCache cache = recent(1, 1);
        for (int page = 1; page <= 5; page++) {
            due.is("access(" + page + ")", cache.access(page, false), 2);
            memory(due, cache, page, 0);
        }
        due.is("access(1)", cache.access(1, false), 2);
        memory(due, cache, 6, 0);
    }

    /** "A miss for reading brings the page in": a hit in tier 1 reads nothing from the memory. */
    private static void hitInTierOneReadsNothing(Due due) {
        TwoTierCache cache = recent(1, 2);
        Due.read(cache, 1, 2);
        memory(due, cache, 2, 0);
        due.is("access(1)", cache.access(1, false), 1);
        due.is("access(2)", cache.access(2, false), 1);
        memory(due, cache, 2, 0);
    }

    /** "(For a miss this is done before the victim goes down": in a tier 1 of one page. */
    private static void bringsInBeforeTheVictimGoesDown(Due due) {
        TwoTierCache cache = recent(1, 1);
        Due.write(cache, 1);
        due.is("access(2)", cache.access(2, false), 2);
        // Page 2 came in and put out page 1, which was clean there; then page 1 put out page 2.
        due.rows("access(2)", cache, 1, "1 | - | - | -");
        due.dirtyPages(cache, 1, 1);
        due.counts(cache, 1, 0, 3, 0);
        memory(due, cache, 2, 0);
    }

    /** "(For a miss this is done before the victim goes down": it went out, and comes back. */
    private static void bringsInBeforeTheVictimComesBackInTierOne(Due due) {
        TwoTierCache cache = new TwoTierCache();
        cache.begin(0, 1, 2, 1);
        Due.write(cache, 1);
        due.rows("access(1, true)", cache, 1, "1 | - | - | -");
        due.is("access(2)", cache.access(2, false), 2);
        due.rows("access(2)", cache, 1, "- | 2 | 1 | -");
        due.dirtyPages(cache, 1, 1);
        due.counts(cache, 1, 0, 3, 0);
    }

    /** "a miss for writing brings nothing in": a victim that tier 1 has not any more. */
    private static void missForWritingInTierOneReadsNothing(Due due) {
        TwoTierCache cache = recent(1, 1);
        Due.write(cache, 1);
        memory(due, cache, 1, 0);
        Due.write(cache, 2);
        due.counts(cache, 1, 0, 3, 0);
        memory(due, cache, 2, 0);
    }

    /** "a miss for writing brings nothing in": a page that flush() sends to tier 1. */
    private static void missForWritingByFlushReadsNothing(Due due) {
        TwoTierCache cache = recent(2, 1);
        Due.write(cache, 1);
        Due.read(cache, 2);
        due.rows("before", cache, 1, "2 | - | - | -");
        due.is("flush()", cache.flush(), 1);
        due.rows("flush()", cache, 1, "1 | - | - | -");
        due.counts(cache, 1, 0, 3, 0);
        memory(due, cache, 2, 1);
    }

    /** "a miss for writing brings nothing in, but in tier 0 it does, like one for reading". */
    private static void missForWritingInTierZeroBringsIn(Due due) {
        TwoTierCache cache = recent(1, 2);
        due.is("access(7, true)", cache.access(7, true), 2);
        due.rows("access(7, true)", cache, 1, "7 | - | - | -");
        due.dirtyPages(cache, 1);
        due.counts(cache, 1, 0, 1, 0);
        memory(due, cache, 1, 0);
        Due.read(cache, 8);
        due.is("access(7, true)", cache.access(7, true), 1);
        due.counts(cache, 1, 2, 2, 0);
        memory(due, cache, 2, 0);
    }

    /** "if there is a victim and it was dirty": it was not, so tier 1 is not asked for it. */
    private static void cleanVictimDoesNotGoDown(Due due) {
        TwoTierCache cache = recent(1, 4);
        Due.read(cache, 1, 2, 3);
        due.rows("after three pages", cache, 1, "3 2 1 | - | - | -");
        due.counts(cache, 0, 0, 3, 0);
        due.counts(cache, 1, 0, 3, 0);
        due.dirtyPages(cache, 1);
    }

    /** "it is not dirty any more and goes down": nor is it when it comes back to tier 0. */
    private static void dirtyVictimGoesDownAndIsNotDirtyAnyMore(Due due) {
        TwoTierCache cache = recent(1, 4);
        Due.write(cache, 1);
        Due.read(cache, 2);
        due.is("dirty(0, 1)", cache.dirty(0, 1), false);
        due.is("dirty(1, 1)", cache.dirty(1, 1), true);
        due.counts(cache, 0, 0, 2, 1);
        Due.read(cache, 1);
        due.is("dirty(0, 1)", cache.dirty(0, 1), false);
        Due.read(cache, 2);
        due.counts(cache, 0, 0, 4, 1);
        due.rows("access(2)", cache, 1, "2 1 | - | - | -");
    }

    /** "it is not dirty any more and goes down": nor is it in a row of those gone out. */
    private static void dirtyVictimGoneOutIsNotDirtyAnyMore(Due due) {
        TwoTierCache cache = new TwoTierCache();
        cache.begin(2, 1, 2, 1);
        Due.write(cache, 1);
        Due.read(cache, 2);
        due.rows("access(2)", cache, 0, "2 | 1 | - | -");
        due.is("dirty(0, 1)", cache.dirty(0, 1), false);
        due.rows("access(2)", cache, 1, "- | 2 | 1 | -");
        due.is("dirty(1, 1)", cache.dirty(1, 1), true);
        Due.read(cache, 3);
        due.rows("access(3)", cache, 1, "3 | 2 | - | -");
        due.is("dirty(1, 1)", cache.dirty(1, 1), false);
        memory(due, cache, 3, 1);
    }

    /** "from tier 0, tier 1 is asked for it, for writing": it is touched there, and dirty. */
    private static void dirtyVictimIsAskedForByWriting(Due due) {
        TwoTierCache cache = recent(1, 4);
        Due.write(cache, 1);
        due.dirtyPages(cache, 1);
        Due.read(cache, 2);
        due.rows("access(2)", cache, 1, "1 2 | - | - | -");
        due.dirtyPages(cache, 1, 1);
        due.counts(cache, 1, 1, 2, 0);
    }

    /** "if there is a victim and it was dirty": it was not, so nothing is written. */
    private static void cleanVictimOfTierOneIsNotWritten(Due due) {
        TwoTierCache cache = recent(1, 1);
        Due.read(cache, 1, 2, 3);
        due.counts(cache, 1, 0, 3, 0);
        memory(due, cache, 3, 0);
    }

    /** "from tier 1, it is written to the memory": once, and it is clean when it comes back. */
    private static void dirtyVictimOfTierOneIsWrittenOnce(Due due) {
        TwoTierCache cache = recent(1, 1);
        Due.write(cache, 1);
        Due.read(cache, 2);
        due.dirtyPages(cache, 1, 1);
        memory(due, cache, 2, 0);
        Due.read(cache, 3);
        due.counts(cache, 1, 0, 4, 1);
        memory(due, cache, 3, 1);
        Due.read(cache, 1, 2);
        due.dirtyPages(cache, 1);
        memory(due, cache, 5, 1);
    }

    /** "Then, for writing, the page is dirty in the tier.": at a miss, a hit, and another hit. */
    private static void writingMakesDirtyAtAMissAndAtAHit(Due due) {
        TwoTierCache cache = recent(2, 4);
        Due.write(cache, 1);
        due.dirtyPages(cache, 0, 1);
        Due.read(cache, 2);
        due.is("dirty(0, 2)", cache.dirty(0, 2), false);
        Due.write(cache, 2);
        due.dirtyPages(cache, 0, 1, 2);
        Due.write(cache, 2);
        due.dirtyPages(cache, 0, 1, 2);
    }

    /** "Then, for writing, the page is dirty": for reading, it stays clean, or it stays dirty. */
    private static void readingLeavesDirtinessAsItIs(Due due) {
        TwoTierCache cache = recent(2, 4);
        Due.write(cache, 1);
        Due.read(cache, 2, 1, 2, 1);
        due.dirtyPages(cache, 0, 1);
        due.dirtyPages(cache, 1);
    }

    /** "Then, for writing, the page is dirty in the tier.": tier 1 asked for reading. */
    private static void readingInTierOneLeavesDirtinessAsItIs(Due due) {
        TwoTierCache cache = recent(1, 3);
        Due.write(cache, 1);
        Due.read(cache, 2);
        due.dirtyPages(cache, 1, 1);
        due.is("access(1)", cache.access(1, false), 1);
        due.dirtyPages(cache, 1, 1);
        due.is("access(2)", cache.access(2, false), 1);
        due.dirtyPages(cache, 1, 1);
        due.dirtyPages(cache, 0);
    }

    /** "So first the touching .., then the bringing in, then the victim, then the dirtiness." */
    private static void touchesThenBringsInThenVictimThenDirtiness(Due due) {
        TwoTierCache cache = recent(1, 1);
        Due.write(cache, 1, 2);
        due.rows("access(2, true)", cache, 0, "2 | - | - | -");
        due.rows("access(2, true)", cache, 1, "1 | - | - | -");
        due.is("dirty(0, 2)", cache.dirty(0, 2), true);
        due.is("dirty(1, 1)", cache.dirty(1, 1), true);
        memory(due, cache, 2, 0);
        // Page 3 puts the dirty page 1 out of tier 1, and page 2 then page 3, which is clean there.
        Due.write(cache, 3);
        due.rows("access(3, true)", cache, 1, "2 | - | - | -");
        due.is("dirty(1, 2)", cache.dirty(1, 2), true);
        due.is("dirty(0, 3)", cache.dirty(0, 3), true);
        due.is("dirty(0, 2)", cache.dirty(0, 2), false);
        due.counts(cache, 0, 0, 3, 2);
        due.counts(cache, 1, 0, 5, 1);
        memory(due, cache, 3, 1);
    }

    /** Both tiers by one policy, with marks, a goal, pages gone out and dirty pages in them. */
    private static TwoTierCache used(int policy) {
        TwoTierCache cache = new TwoTierCache();
        cache.begin(policy, 3, policy, 4);
        Due.read(cache, 1, 1, 2);
        Due.write(cache, 2, 3, 4);
        Due.read(cache, 5, 4, 3, 6);
        Due.write(cache, 4, 7);
        Due.read(cache, 3, 7);
        return cache;
    }

    /** What is told of the object is what is told of another one that had no refused call. */
    private static void sameAsUsed(Due due, TwoTierCache cache, int policy) {
        TwoTierCache twin = used(policy);
        due.is("after refused calls, " + policy, Due.stateOf(cache), Due.stateOf(twin));
        Due.write(cache, 2, 8);
        Due.write(twin, 2, 8);
        due.is("flush() by " + policy, cache.flush(), twin.flush());
        due.is("and three calls, " + policy, Due.stateOf(cache), Due.stateOf(twin));
    }

    /** "A call that is refused changes nothing.": begin, each argument too small or too great. */
    private static void refusedBeginChangesNothing(Due due) {
        int[][] wrong = {
            {-1, 1, 0, 1}, {4, 1, 0, 1}, {0, 0, 0, 1}, {0, 17, 0, 1},
            {0, 1, -1, 1}, {0, 1, 4, 1}, {0, 1, 0, 0}, {0, 1, 0, 17},
            {MIN, 1, 0, 1}, {MAX, 1, 0, 1}, {0, MIN, 0, 1}, {0, MAX, 0, 1},
            {0, 1, MIN, 1}, {0, 1, MAX, 1}, {0, 1, 0, MIN}, {0, 1, 0, MAX},
            {-1, 0, 4, 17},
        };
        for (int policy = 0; policy < 4; policy++) {
            TwoTierCache cache = used(policy);
            for (int[] of : wrong) {
                due.is("begin(" + of[0] + ", " + of[1] + ", " + of[2] + ", " + of[3] + ")",
                        cache.begin(of[0], of[1], of[2], of[3]), false);
            }
            sameAsUsed(due, cache, policy);
        }
    }

    /** "A call that is refused changes nothing.": access of pages that there are not. */
    private static void refusedAccessChangesNothing(Due due) {
        int[] none = {-1, 64, 65, 66, -62, 128, MIN, MAX};
        for (int policy = 0; policy < 4; policy++) {
            TwoTierCache cache = used(policy);
            for (int page : none) {
                due.is("access(" + page + ", false)", cache.access(page, false),
                        TwoTierCache.NONE);
                due.is("access(" + page + ", true)", cache.access(page, true), TwoTierCache.NONE);
            }
            sameAsUsed(due, cache, policy);
        }
    }

    /** "A call that is refused changes nothing.": the calls that look, with wrong arguments. */
    private static void looksAtWhatIsNotThereChangeNothing(Due due) {
        for (int policy = 0; policy < 4; policy++) {
            TwoTierCache cache = used(policy);
            for (int wrong : new int[] {-1, 64, MIN, MAX}) {
                due.is("resident", cache.resident(0, wrong) || cache.resident(wrong, 3), false);
                due.is("dirty", cache.dirty(1, wrong) || cache.dirty(wrong, 3), false);
                due.is("marked", cache.marked(0, wrong) || cache.marked(wrong, 3), false);
                due.is("row of no tier", cache.row(wrong, 0, 0), TwoTierCache.NONE);
                due.is("no row", cache.row(0, wrong, 0), TwoTierCache.NONE);
                due.is("no place", cache.row(1, 0, wrong), TwoTierCache.NONE);
                due.is("goal of no tier", cache.goal(wrong), TwoTierCache.NONE);
                due.is("count of no tier", cache.count(wrong, 0), TwoTierCache.NONE);
                due.is("no count", cache.count(1, wrong), TwoTierCache.NONE);
            }
            sameAsUsed(due, cache, policy);
        }
    }
}

/**
 * Promises 10 to 12, count, reads and writes, at their edges. Each test is of one sentence of the
 * document, which stands above it.
 */
public final class EdgesOfCountsTest {
    private static final int MIN = Integer.MIN_VALUE;
    private static final int MAX = Integer.MAX_VALUE;

    public static void main(String[] args) {
        Due due = new Due();
        countOfAnotherNumber(due);
        countOfNoTier(due);
        countWithNothingCountedYet(due);
        countAfterBegin(due);
        countAfterRefusedCalls(due);
        countOfHits(due);
        countOfMissesForReadingAndWriting(due);
        countOfAsksForWritingInTierOne(due);
        countOfAsksByFlush(due);
        countOfVictimsThatWereDirty(due);
        countOfVictimsThatWereClean(due);
        countOfVictimsByFlush(due);
        readsWithNothingCountedYet(due);
        readsAfterBegin(due);
        readsOfPages(due);
        readsOfNothingElse(due);
        writesWithNothingCountedYet(due);
        writesAfterBegin(due);
        writesOfVictimsAndByFlush(due);
        writesOfNothingElse(due);
        due.end();
    }

    private static TwoTierCache recent(int capacity0, int capacity1) {
        TwoTierCache cache = new TwoTierCache();
        cache.begin(0, capacity0, 0, capacity1);
        return cache;
    }

    /** Hits, misses and dirty victims in both tiers, pages read and written: none of them is 0. */
    private static TwoTierCache counted() {
        TwoTierCache cache = recent(1, 2);
        Due.write(cache, 1, 1, 2, 3, 4);
        cache.flush();
        return cache;
    }

    /** "NONE when there is no such tier or what is another number.": below 0 and above 2. */
    private static void countOfAnotherNumber(Due due) {
        TwoTierCache cache = counted();
        for (int what : new int[] {-1, 3, 4, -2, MIN, MAX}) {
            due.is("count(0, " + what + ")", cache.count(0, what), TwoTierCache.NONE);
            due.is("count(1, " + what + ")", cache.count(1, what), TwoTierCache.NONE);
        }
    }

    /** "NONE when there is no such tier or what is another number.": no such tier. */
    private static void countOfNoTier(Due due) {
        TwoTierCache cache = counted();
        for (int tier : new int[] {-1, 2, 3, -2, MIN, MAX}) {
            for (int what = -1; what <= 3; what++) {
                due.is("count(" + tier + ", " + what + ")", cache.count(tier, what),
                        TwoTierCache.NONE);
            }
        }
    }

    /** "How many hits .., misses .., and victims that were dirty (2) a tier had": none yet. */
    private static void countWithNothingCountedYet(Due due) {
        TwoTierCache cache = new TwoTierCache();
        due.counts(cache, 0, 0, 0, 0);
        due.counts(cache, 1, 0, 0, 0);
        cache.flush();
        due.counts(cache, 0, 0, 0, 0);
        due.counts(cache, 1, 0, 0, 0);
    }

    /** "How many hits .. a tier had": none any more after begin, and one after one more. */
    private static void countAfterBegin(Due due) {
        TwoTierCache cache = counted();
        // Tier 1 missed 1, 2, 3 and 4, then the victims 2 and 3; the victim 1 was a hit, and so
        // was 4 by flush().
        due.counts(cache, 0, 1, 4, 3);
        due.counts(cache, 1, 2, 6, 2);
        cache.begin(0, 1, 0, 2);
        due.counts(cache, 0, 0, 0, 0);
        due.counts(cache, 1, 0, 0, 0);
        Due.read(cache, 1);
        due.counts(cache, 0, 0, 1, 0);
        due.counts(cache, 1, 0, 1, 0);
    }

    /** "A call that is refused changes nothing.": no ask, so neither hit nor miss. */
    private static void countAfterRefusedCalls(Due due) {
        TwoTierCache cache = counted();
        due.is("access(64, true)", cache.access(64, true), TwoTierCache.NONE);
        due.is("access(-1, false)", cache.access(-1, false), TwoTierCache.NONE);
        due.is("begin(4, 1, 0, 1)", cache.begin(4, 1, 0, 1), false);
        due.counts(cache, 0, 1, 4, 3);
        due.counts(cache, 1, 2, 6, 2);
        due.is("reads()", cache.reads(), 4);
        due.is("writes()", cache.writes(), 4);
    }

    /** "How many hits (what = 0)": for reading and for writing, each tier its own. */
    private static void countOfHits(Due due) {
        TwoTierCache cache = recent(1, 2);
        Due.read(cache, 1, 1);
        due.counts(cache, 0, 1, 1, 0);
        due.counts(cache, 1, 0, 1, 0);
        Due.write(cache, 1);
        due.counts(cache, 0, 2, 1, 0);
        due.counts(cache, 1, 0, 1, 0);
        cache.flush();
        Due.read(cache, 2, 1);
        due.counts(cache, 0, 2, 3, 0);
        due.counts(cache, 1, 2, 2, 0);
    }

    /** "misses (1; of every ask ..)": for reading and for writing, of both tiers. */
    private static void countOfMissesForReadingAndWriting(Due due) {
        TwoTierCache cache = recent(4, 4);
        Due.read(cache, 1);
        due.counts(cache, 0, 0, 1, 0);
        due.counts(cache, 1, 0, 1, 0);
        Due.write(cache, 2);
        due.counts(cache, 0, 0, 2, 0);
        due.counts(cache, 1, 0, 2, 0);
    }

    /** "of every ask, in tier 1 for writing ..": a victim of tier 0 that tier 1 misses, or hits. */
    private static void countOfAsksForWritingInTierOne(Due due) {
        TwoTierCache cache = recent(1, 1);
        Due.write(cache, 1);
        Due.read(cache, 2);
        due.counts(cache, 1, 0, 3, 0);
        cache = recent(1, 2);
        Due.write(cache, 1);
        Due.read(cache, 2);
        due.counts(cache, 1, 1, 2, 0);
    }

    /** "of every ask, .. and by flush(), too": a page that tier 1 misses, and one that it hits. */
    private static void countOfAsksByFlush(Due due) {
        TwoTierCache cache = recent(2, 1);
        Due.write(cache, 1);
        Due.read(cache, 2);
        due.counts(cache, 1, 0, 2, 0);
        cache.flush();
        due.counts(cache, 1, 0, 3, 0);
        Due.write(cache, 1);
        cache.flush();
        due.counts(cache, 1, 1, 3, 0);
        due.counts(cache, 0, 1, 2, 0);
    }

    /** "and victims that were dirty (2)": of each tier, by each policy. */
    private static void countOfVictimsThatWereDirty(Due due) {
        for (int policy = 0; policy < 4; policy++) {
            TwoTierCache cache = new TwoTierCache();
            cache.begin(policy, 1, 0, 16);
            Due.write(cache, 1, 2, 3);
            due.is("count(0, 2) by " + policy, cache.count(0, 2), 2);
            due.is("count(1, 2)", cache.count(1, 2), 0);
            cache.begin(0, 1, policy, 1);
            Due.write(cache, 1);
            Due.read(cache, 2, 3);
            due.is("count(0, 2)", cache.count(0, 2), 1);
            due.is("count(1, 2) by " + policy, cache.count(1, 2), 1);
        }
    }

    /** "and victims that were dirty (2)": not those that were clean. */
    private static void countOfVictimsThatWereClean(Due due) {
        for (int policy = 0; policy < 4; policy++) {
            TwoTierCache cache = new TwoTierCache();
            cache.begin(policy, 1, policy, 1);
            Due.read(cache, 1, 2, 3);
            due.is("count(0, 2) by " + policy, cache.count(0, 2), 0);
            due.is("count(1, 2) by " + policy, cache.count(1, 2), 0);
        }
    }

    /** "and victims that were dirty (2)": flush() has some in tier 1 on its way, none in tier 0. */
    private static void countOfVictimsByFlush(Due due) {
        TwoTierCache cache = recent(2, 1);
        Due.write(cache, 1, 2);
        due.is("flush()", cache.flush(), 2);
        due.counts(cache, 0, 0, 2, 0);
        due.counts(cache, 1, 0, 4, 1);
        // What was flushed leaves tier 0 as a clean victim.
        Due.read(cache, 3, 4);
        due.counts(cache, 0, 0, 4, 0);
    }

    /** "How many pages were read from the memory.": none yet. */
    private static void readsWithNothingCountedYet(Due due) {
        TwoTierCache cache = new TwoTierCache();
        due.is("reads()", cache.reads(), 0);
        cache.flush();
        due.is("reads()", cache.reads(), 0);
    }

    /** "How many pages were read from the memory.": since begin; a refused one lets it be. */
    private static void readsAfterBegin(Due due) {
        TwoTierCache cache = counted();
        due.is("reads()", cache.reads(), 4);
        due.is("begin(0, 1, 0, 0)", cache.begin(0, 1, 0, 0), false);
        due.is("reads()", cache.reads(), 4);
        due.is("begin(0, 1, 0, 1)", cache.begin(0, 1, 0, 1), true);
        due.is("reads()", cache.reads(), 0);
        Due.read(cache, 1);
        due.is("reads()", cache.reads(), 1);
    }

    /** "How many pages were read from the memory.": also the same one again. */
    private static void readsOfPages(Due due) {
        TwoTierCache cache = recent(1, 1);
        Due.read(cache, 1, 2, 1);
        due.is("reads()", cache.reads(), 3);
        Due.write(cache, 2);
        due.is("reads()", cache.reads(), 4);
    }

    /** "How many pages were read from the memory.": not by hits, nor by asks for writing. */
    private static void readsOfNothingElse(Due due) {
        TwoTierCache cache = recent(1, 1);
        Due.write(cache, 1, 1, 2);
        due.counts(cache, 1, 0, 3, 0);
        due.is("reads()", cache.reads(), 2);
        cache.flush();
        due.counts(cache, 1, 0, 4, 1);
        due.is("reads()", cache.reads(), 2);
        Due.read(cache, 2);
        due.is("reads()", cache.reads(), 2);
    }

    /** "How many were written to it.": none yet. */
    private static void writesWithNothingCountedYet(Due due) {
        TwoTierCache cache = new TwoTierCache();
        due.is("writes()", cache.writes(), 0);
        due.is("flush()", cache.flush(), 0);
        due.is("writes()", cache.writes(), 0);
    }

    /** "How many were written to it.": since begin; a refused one lets it be. */
    private static void writesAfterBegin(Due due) {
        TwoTierCache cache = counted();
        due.is("writes()", cache.writes(), 4);
        due.is("begin(0, 1, 0, 0)", cache.begin(0, 1, 0, 0), false);
        due.is("writes()", cache.writes(), 4);
        due.is("begin(0, 1, 0, 1)", cache.begin(0, 1, 0, 1), true);
        due.is("writes()", cache.writes(), 0);
        Due.write(cache, 1);
        due.is("flush()", cache.flush(), 1);
        due.is("writes()", cache.writes(), 1);
    }

    /** "How many were written to it.": victims of tier 1, and by flush(). */
    private static void writesOfVictimsAndByFlush(Due due) {
        TwoTierCache cache = recent(1, 1);
        Due.write(cache, 1, 2);
        due.is("writes()", cache.writes(), 0);
        Due.read(cache, 3);
        due.is("writes()", cache.writes(), 1);
        due.is("flush()", cache.flush(), 1);
        due.is("writes()", cache.writes(), 2);
    }

    /** "How many were written to it.": not what is written in tier 0, nor what goes to tier 1. */
    private static void writesOfNothingElse(Due due) {
        TwoTierCache cache = recent(1, 4);
        Due.write(cache, 1, 1, 2, 3);
        due.counts(cache, 0, 1, 3, 2);
        due.dirtyPages(cache, 1, 1, 2);
        due.is("writes()", cache.writes(), 0);
    }
}

/** Promise 4: flush. */
public final class FlushTest {
    public static void main(String[] args) {
        Due due = new Due();
        takesTheLeastPageFirst(due);
        writesWhatIsDirtyInEitherTier(due);
        asksTierOneForWriting(due);
        goesToTheFirstAndTheLastPage(due);
        answersNoneWrittenWhenAllIsClean(due);
        due.end();
    }

    private static void takesTheLeastPageFirst(Due due) {
        TwoTierCache cache = new TwoTierCache();
        cache.begin(0, 3, 0, 1);
        Due.write(cache, 5, 3);
        Due.read(cache, 1);
        // Page 3 goes down, then page 5, which puts page 3 out of tier 1.
        due.is("flush()", cache.flush(), 2);
        due.row(cache, 0, 0, 1, 3, 5);
        due.row(cache, 1, 0, 5);
        due.dirtyPages(cache, 0);
        due.dirtyPages(cache, 1);
        due.counts(cache, 0, 0, 3, 0);
        due.counts(cache, 1, 0, 5, 1);
        due.is("reads()", cache.reads(), 3);
        due.is("writes()", cache.writes(), 2);
    }

    private static void writesWhatIsDirtyInEitherTier(Due due) {
        TwoTierCache cache = new TwoTierCache();
        cache.begin(0, 1, 0, 4);
        Due.write(cache, 9, 8, 7);
        due.dirtyPages(cache, 0, 7);
        due.dirtyPages(cache, 1, 8, 9);
        due.is("flush()", cache.flush(), 3);
        due.dirtyPages(cache, 0);
        due.dirtyPages(cache, 1);
        due.residents(cache, 0, 7);
        due.residents(cache, 1, 7, 8, 9);
        due.is("writes()", cache.writes(), 3);
        Due.write(cache, 7);
        due.is("flush()", cache.flush(), 1);
        due.is("writes()", cache.writes(), 4);
        Due.write(cache, 8);
        Due.read(cache, 8);
        // Page 8 is dirty in both: it is written once.
        Due.write(cache, 9, 8);
        due.is("flush()", cache.flush(), 2);
        due.is("writes()", cache.writes(), 6);
    }

    private static void asksTierOneForWriting(Due due) {
        TwoTierCache cache = new TwoTierCache();
        cache.begin(0, 4, 0, 4);
        Due.write(cache, 1, 2);
        Due.read(cache, 3, 4);
        due.row(cache, 1, 0, 4, 3, 2, 1);
        due.is("flush()", cache.flush(), 2);
        // Both are hits there, which come to the head.
        due.row(cache, 1, 0, 2, 1, 4, 3);
        due.counts(cache, 1, 2, 4, 0);
        due.row(cache, 0, 0, 4, 3, 2, 1);
        due.counts(cache, 0, 0, 4, 0);
        due.is("reads()", cache.reads(), 4);
    }

    private static void goesToTheFirstAndTheLastPage(Due due) {
        TwoTierCache cache = new TwoTierCache();
        cache.begin(0, 2, 0, 2);
        Due.write(cache, 63, 0);
        due.is("flush()", cache.flush(), 2);
        due.row(cache, 1, 0, 63, 0);
        due.dirtyPages(cache, 0);
        due.dirtyPages(cache, 1);
    }

    private static void answersNoneWrittenWhenAllIsClean(Due due) {
        TwoTierCache cache = new TwoTierCache();
        Due.read(cache, 1, 2, 3, 4, 5);
        due.is("flush()", cache.flush(), 0);
        Due.write(cache, 5);
        due.is("flush()", cache.flush(), 1);
        due.is("flush()", cache.flush(), 0);
        due.is("writes()", cache.writes(), 1);
        due.counts(cache, 1, 1, 5, 0);
        // What was flushed goes no more.
        Due.read(cache, 1, 2, 3, 4);
        due.counts(cache, 0, 1, 9, 0);
    }
}

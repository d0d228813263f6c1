/**
 * The Terms of a tier at their edges. Each test is of one sentence of the document, which stands
 * above it.
 */
public final class EdgesOfTiersTest {
    public static void main(String[] args) {
        Due due = new Due();
        pageZeroIsTheFirst(due);
        page63IsTheLast(due);
        capacityIsFilledAndNeverMore(due);
        firstPagesFindRoom(due);
        fullTierLetsOnePageGo(due);
        hitLetsNoPageGo(due);
        noVictimNothingGoesDown(due);
        hitInMainRowHasNoVictim(due);
        rowsAreEmptyAtFirst(due);
        onlyPageIsHeadAndTail(due);
        goneOutPageIsAMiss(due);
        call512IsAnswered(due);
        due.end();
    }

    /** "PAGES are 0 .. 63.": the least of them, and the number below it. */
    private static void pageZeroIsTheFirst(Due due) {
        TwoTierCache cache = new TwoTierCache();
        due.is("access(-1)", cache.access(-1, false), TwoTierCache.NONE);
        due.rows("after access(-1)", cache, 0, "- | - | - | -");
        due.is("access(0)", cache.access(0, false), 2);
        due.rows("after access(0)", cache, 0, "0 | - | - | -");
        due.rows("after access(0)", cache, 1, "0 | - | - | -");
        due.is("resident(0, 0)", cache.resident(0, 0), true);
        due.is("resident(1, 0)", cache.resident(1, 0), true);
    }

    /** "PAGES are 0 .. 63.": the greatest of them, and the number above it. */
    private static void page63IsTheLast(Due due) {
        TwoTierCache cache = new TwoTierCache();
        due.is("access(64)", cache.access(64, false), TwoTierCache.NONE);
        due.rows("after access(64)", cache, 0, "- | - | - | -");
        due.is("access(63)", cache.access(63, false), 2);
        due.rows("after access(63)", cache, 0, "63 | - | - | -");
        due.rows("after access(63)", cache, 1, "63 | - | - | -");
        due.is("resident(0, 63)", cache.resident(0, 63), true);
        due.is("resident(1, 63)", cache.resident(1, 63), true);
    }

    /** A tier under test in either place; the other one is RECENT and lets every ask through. */
    private static TwoTierCache tierOf(int tier, int policy, int capacity) {
        TwoTierCache cache = new TwoTierCache();
        if (tier == 0) {
            cache.begin(policy, capacity, 0, 16);
        } else {
            cache.begin(0, 1, policy, capacity);
        }
        return cache;
    }

    private static int residentsBelow(TwoTierCache cache, int tier, int pages) {
        int residents = 0;
        for (int page = 0; page < pages; page++) {
            residents += cache.resident(tier, page) ? 1 : 0;
        }
        return residents;
    }

    /** "A TIER has a CAPACITY c from 1 to 16 ..; pages are RESIDENT in it or not, at most c". */
    private static void capacityIsFilledAndNeverMore(Due due) {
        for (int tier = 0; tier < 2; tier++) {
            for (int policy = 0; policy < 4; policy++) {
                for (int c = 1; c <= 16; c++) {
                    TwoTierCache cache = tierOf(tier, policy, c);
                    for (int step = 0; step < 60; step++) {
                        // The last pages come again, and new ones between them.
                        cache.access(step % 3 == 2 ? step / 2 : step, step % 2 == 0);
                    }
                    due.is("resident of " + c + " by " + policy + " in tier " + tier,
                            residentsBelow(cache, tier, 64), c);
                }
            }
        }
    }

    /** "at most one page, the VICTIM, is not any more": none while there is room, up to c pages. */
    private static void firstPagesFindRoom(Due due) {
        for (int tier = 0; tier < 2; tier++) {
            for (int policy = 0; policy < 4; policy++) {
                for (int c = 1; c <= 16; c++) {
                    TwoTierCache cache = tierOf(tier, policy, c);
                    for (int page = 0; page < c; page++) {
                        cache.access(page, false);
                        due.is(page + " of " + c + " by " + policy + " in tier " + tier,
                                residentsBelow(cache, tier, c), page + 1);
                    }
                }
            }
        }
    }

    /** "at the end of it x is resident; and at most one page, the VICTIM, is not any more". */
    private static void fullTierLetsOnePageGo(Due due) {
        for (int tier = 0; tier < 2; tier++) {
            for (int policy = 0; policy < 4; policy++) {
                for (int c = 1; c <= 16; c++) {
                    TwoTierCache cache = tierOf(tier, policy, c);
                    for (int page = 0; page <= c; page++) {
                        cache.access(page, false);
                    }
                    String call = "page " + c + " of " + c + " by " + policy + " in tier " + tier;
                    due.is(call, cache.resident(tier, c), true);
                    due.is(call + ", pages left", residentsBelow(cache, tier, c), c - 1);
                }
            }
        }
    }

    /** "at most one page, the VICTIM, is not any more": none at a hit, in a full tier. */
    private static void hitLetsNoPageGo(Due due) {
        for (int policy = 0; policy < 4; policy++) {
            for (int c = 1; c <= 16; c++) {
                TwoTierCache cache = tierOf(0, policy, c);
                for (int page = 0; page < c; page++) {
                    cache.access(page, false);
                }
                due.is("first page", cache.access(0, false), 0);
                due.is("last page", cache.access(c - 1, true), 0);
                due.is("resident of " + c + " by " + policy, residentsBelow(cache, 0, 64), c);
            }
        }
    }

    /** "if there is a victim and it was dirty, it .. goes down": none while there is room. */
    private static void noVictimNothingGoesDown(Due due) {
        for (int tier = 0; tier < 2; tier++) {
            for (int policy = 0; policy < 4; policy++) {
                TwoTierCache cache = tierOf(tier, policy, 4);
                Due.write(cache, 0, 63);
                // Tier 0 of one page lets 0 and 63 go, so that they are dirty in tier 1.
                Due.read(cache, 1, 0, 63, 2);
                due.is("resident by " + policy, residentsBelow(cache, tier, 64), 4);
                due.dirtyPages(cache, tier, 0, 63);
                due.is("count(" + tier + ", 2)", cache.count(tier, 2), 0);
                due.is("writes()", cache.writes(), 0);
            }
        }
    }

    /** "if there is a victim and it was dirty, it .. goes down": none at a hit in row 2. */
    private static void hitInMainRowHasNoVictim(Due due) {
        TwoTierCache cache = tierOf(0, 2, 2);
        Due.read(cache, 1, 2, 3, 1);
        Due.write(cache, 0);
        due.rows("page 1 in the main row", cache, 0, "0 | 3 | 1 | -");
        due.is("access(1)", cache.access(1, false), 0);
        due.dirtyPages(cache, 0, 0);
        due.dirtyPages(cache, 1);
        due.counts(cache, 0, 1, 5, 0);
    }

    /** "It keeps rows of pages, all empty at first." */
    private static void rowsAreEmptyAtFirst(Due due) {
        TwoTierCache cache = new TwoTierCache();
        due.rows("new", cache, 0, "- | - | - | -");
        due.rows("new", cache, 1, "- | - | - | -");
        for (int policy = 0; policy < 4; policy++) {
            cache.begin(policy, 1, 3 - policy, 16);
            due.rows("begin(" + policy + ", ..)", cache, 0, "- | - | - | -");
            due.rows("begin(.., " + (3 - policy) + ", ..)", cache, 1, "- | - | - | -");
        }
    }

    /** "the HEAD of a row is its first page, the TAIL its last one": a row of one page. */
    private static void onlyPageIsHeadAndTail(Due due) {
        for (int policy = 0; policy < 4; policy++) {
            TwoTierCache cache = new TwoTierCache();
            cache.begin(policy, 1, 0, 16);
            Due.read(cache, 9);
            due.rows("page 9", cache, 0, "9 | - | - | -");
            Due.read(cache, 8);
            due.is("row(0, 0, 0)", cache.row(0, 0, 0), 8);
            due.is("row(0, 0, 1)", cache.row(0, 0, 1), TwoTierCache.NONE);
        }
    }

    /** "TO TOUCH a page x in a tier is a HIT if x is resident, otherwise a MISS": gone out ones. */
    private static void goneOutPageIsAMiss(Due due) {
        TwoTierCache queues = new TwoTierCache();
        queues.begin(2, 1, 0, 16);
        Due.read(queues, 1, 2);
        due.rows("gone out of row 0", queues, 0, "2 | 1 | - | -");
        due.is("access(1)", queues.access(1, false), 1);
        due.counts(queues, 0, 0, 3, 0);

        TwoTierCache balanced = new TwoTierCache();
        balanced.begin(3, 2, 0, 16);
        Due.read(balanced, 1, 1, 2, 3);
        due.rows("gone out of row 0", balanced, 0, "3 | 1 | 2 | -");
        due.is("access(2)", balanced.access(2, false), 1);
        due.rows("gone out of row 1", balanced, 0, "3 | 2 | - | 1");
        due.is("access(1)", balanced.access(1, false), 1);
        due.counts(balanced, 0, 1, 5, 0);
    }

    /** "An object is used for at most 512 calls after it has been made": the last of them. */
    private static void call512IsAnswered(Due due) {
        TwoTierCache cache = new TwoTierCache();
        cache.begin(0, 1, 0, 1);
        for (int i = 0; i < 508; i++) {
            cache.access(i % 64, true);
        }
        // Each page misses both tiers, and its victim misses tier 1; what goes down is written
        // one page later.
        due.is("access, call 510", cache.access(508 % 64, true), 2);
        due.is("count(1, 1), call 511", cache.count(1, 1), 509 + 508);
        due.is("writes(), call 512", cache.writes(), 507);
    }
}

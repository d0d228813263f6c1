/** Compares answers with those that are due, and ends the program with 1 when one was not. */
final class Due {
    private int wrong;
    private int looked;

    void is(String call, long got, long want) {
        looked++;
        if (got != want) {
            wrong++;
            System.out.println(call + " answered " + got + ", due is " + want);
        }
    }

    void is(String call, String got, String want) {
        looked++;
        if (!got.equals(want)) {
            wrong++;
            System.out.println(call + " answered [" + got + "], due is [" + want + "]");
        }
    }

    void is(String call, boolean got, boolean want) {
        is(call, got ? 1 : 0, want ? 1 : 0);
    }

    /** The whole of a row: these pages, and none before or after them. */
    void row(TwoTierCache cache, int tier, int row, int... pages) {
        String call = "row(" + tier + ", " + row + ", ";
        is(call + "-1)", cache.row(tier, row, -1), TwoTierCache.NONE);
        for (int i = 0; i < pages.length; i++) {
            is(call + i + ")", cache.row(tier, row, i), pages[i]);
        }
        is(call + pages.length + ")", cache.row(tier, row, pages.length), TwoTierCache.NONE);
    }

    /** All four rows of a tier, told as "7 6 | 4 3 | - | 2 1". */
    void rows(String call, TwoTierCache cache, int tier, String want) {
        is(call + ": rows of tier " + tier, rowsOf(cache, tier), want);
    }

    /** Rows and goal of a tier that is BALANCED, told as "1: 7 6 | 4 3 | - | 2 1". */
    void balanced(String call, TwoTierCache cache, int tier, String want) {
        is(call + ": goal and rows of tier " + tier,
                cache.goal(tier) + ": " + rowsOf(cache, tier), want);
    }

    /** The pages resident in a tier are these and no others. */
    void residents(TwoTierCache cache, int tier, int... pages) {
        for (int page = 0; page < 64; page++) {
            is("resident(" + tier + ", " + page + ")", cache.resident(tier, page),
                    has(pages, page));
        }
    }

    /** The dirty pages of a tier are these and no others. */
    void dirtyPages(TwoTierCache cache, int tier, int... pages) {
        for (int page = 0; page < 64; page++) {
            is("dirty(" + tier + ", " + page + ")", cache.dirty(tier, page), has(pages, page));
        }
    }

    /** The marked pages of a tier are these and no others. */
    void markedPages(TwoTierCache cache, int tier, int... pages) {
        for (int page = 0; page < 64; page++) {
            is("marked(" + tier + ", " + page + ")", cache.marked(tier, page), has(pages, page));
        }
    }

    void counts(TwoTierCache cache, int tier, int hits, int misses, int dirtyVictims) {
        is("count(" + tier + ", 0)", cache.count(tier, 0), hits);
        is("count(" + tier + ", 1)", cache.count(tier, 1), misses);
        is("count(" + tier + ", 2)", cache.count(tier, 2), dirtyVictims);
    }

    /** The rows 0 .. 3 of a tier, each from its head to its tail; "-" is a row without pages. */
    static String rowsOf(TwoTierCache cache, int tier) {
        StringBuilder text = new StringBuilder();
        for (int row = 0; row < 4; row++) {
            text.append(row == 0 ? "" : " | ");
            int page = cache.row(tier, row, 0);
            text.append(page == TwoTierCache.NONE ? "-" : "" + page);
            // No row is as long as all pages: the bound is for a program that answers without end.
            for (int i = 1; i < 64 && page != TwoTierCache.NONE; i++) {
                page = cache.row(tier, row, i);
                text.append(page == TwoTierCache.NONE ? "" : " " + page);
            }
        }
        return text.toString();
    }

    /** All that the answers tell of an object, in one text. */
    static String stateOf(TwoTierCache cache) {
        StringBuilder text = new StringBuilder();
        for (int tier = 0; tier < 2; tier++) {
            text.append(rowsOf(cache, tier)).append("; goal ").append(cache.goal(tier));
            for (int what = 0; what < 3; what++) {
                text.append(what == 0 ? "; counts " : " ").append(cache.count(tier, what));
            }
            text.append("; dirty, marked");
            for (int page = 0; page < 16; page++) {
                text.append(cache.dirty(tier, page) ? " d" + page : "");
                text.append(cache.marked(tier, page) ? " m" + page : "");
            }
            text.append("; ");
        }
        return text.append(cache.reads()).append(" reads, ").append(cache.writes())
                .append(" writes").toString();
    }

    /** Reads pages one after another, without a look at the answers. */
    static void read(TwoTierCache cache, int... pages) {
        for (int page : pages) {
            cache.access(page, false);
        }
    }

    static void write(TwoTierCache cache, int... pages) {
        for (int page : pages) {
            cache.access(page, true);
        }
    }

    private static boolean has(int[] pages, int page) {
        for (int each : pages) {
            if (each == page) {
                return true;
            }
        }
        return false;
    }

    void end() {
        System.out.println(looked + " answers, " + wrong + " not as due");
        if (wrong != 0 || looked == 0) {
            System.exit(1);
        }
    }
}

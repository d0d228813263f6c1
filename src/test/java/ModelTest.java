import java.util.List;

/** All promises, in long runs of calls that are the same each time, against Model. */
public final class ModelTest {
    private static final int CALLS = 512;
    private static final int[] ODD =
            {-1, -2, 4, 16, 17, 63, 64, 65, 128, Integer.MIN_VALUE, Integer.MAX_VALUE};

    private final Due due;
    private final TwoTierCache cache = new TwoTierCache();
    private final Model model = new Model();
    private long seed;

    private ModelTest(Due due, long seed) {
        this.due = due;
        this.seed = seed;
    }

    public static void main(String[] args) {
        Due due = new Due();
        for (int policies = 0; policies < 16; policies++) {
            for (int run = 0; run < 120; run++) {
                new ModelTest(due, policies * 1000 + run).run(policies / 4, policies % 4, run);
            }
        }
        due.end();
    }

    private int next(int bound) {
        seed = seed * 6364136223846793005L + 1442695040888963407L;
        return (int) ((seed >>> 33) % bound);
    }

    private int oddOr(int bound) {
        return next(20) == 0 ? ODD[next(ODD.length)] : next(bound);
    }

    private void run(int policy0, int policy1, int run) {
        int capacity0 = 1 + next(run % 2 == 0 ? 16 : 5);
        int capacity1 = 1 + next(run % 3 == 0 ? 16 : 9);
        // Few pages more than places, or many: ghosts come back often only with few.
        int pages = Math.min(64, 2 + capacity0 + next(run % 5 == 0 ? 60 : 14));
        if (run > 0) {
            begin(policy0, capacity0, policy1, capacity1);
        }
        for (int call = 1; call < CALLS; call++) {
            step(pages);
            if (call % 8 == 0 || call > CALLS - 16) {
                lookAtAll();
            }
        }
    }

    private void begin(int policy0, int capacity0, int policy1, int capacity1) {
        due.is("begin", cache.begin(policy0, capacity0, policy1, capacity1),
                model.begin(policy0, capacity0, policy1, capacity1));
    }

    private void step(int pages) {
        int kind = next(200);
        if (kind == 0) {
            begin(oddOr(4), oddOr(17), oddOr(4), oddOr(17));
        } else if (kind < 5) {
            due.is("flush()", cache.flush(), model.flush());
        } else if (kind < 10) {
            lookAtOdd();
        } else {
            // Two draws, the lesser of them: some pages come often, some seldom.
            int page = kind < 13 ? ODD[next(ODD.length)] : Math.min(next(pages), next(pages));
            boolean writing = next(3) == 0;
            due.is("access(" + page + ")", cache.access(page, writing),
                    model.access(page, writing));
        }
    }

    private void lookAtOdd() {
        int tier = ODD[next(2) == 0 ? 0 : 2 + next(ODD.length - 2)];
        int any = next(64);
        int odd = ODD[next(2) == 0 ? next(2) : 6 + next(ODD.length - 6)];
        due.is("resident of no tier", cache.resident(tier, any), false);
        due.is("dirty of no tier", cache.dirty(tier, any), false);
        due.is("marked of no tier", cache.marked(tier, any), false);
        due.is("row of no tier", cache.row(tier, next(4), 0), Model.NONE);
        due.is("goal of no tier", cache.goal(tier), Model.NONE);
        due.is("count of no tier", cache.count(tier, next(3)), Model.NONE);
        for (int t = 0; t < 2; t++) {
            due.is("resident of no page", cache.resident(t, odd), false);
            due.is("dirty of no page", cache.dirty(t, odd), false);
            due.is("marked of no page", cache.marked(t, odd), false);
            due.is("no row", cache.row(t, odd, 0), Model.NONE);
            due.is("no place", cache.row(t, next(4), odd), Model.NONE);
            due.is("no count", cache.count(t, odd), Model.NONE);
        }
    }

    private void lookAtAll() {
        for (int t = 0; t < 2; t++) {
            Model.ModelTier tier = model.tiers[t];
            for (int row = 0; row < 4; row++) {
                List<Integer> pages = tier.rows.get(row);
                due.row(cache, t, row, pages.stream().mapToInt(page -> page).toArray());
            }
            for (int page = 0; page < 64; page++) {
                due.is("resident", cache.resident(t, page), tier.residents().contains(page));
                due.is("dirty", cache.dirty(t, page), tier.dirty.contains(page));
                due.is("marked", cache.marked(t, page), tier.marked.contains(page));
            }
            due.counts(cache, t, tier.counts[0], tier.counts[1], tier.counts[2]);
            due.is("goal", cache.goal(t), tier.policy == 3 ? tier.goal : Model.NONE);
        }
        due.is("reads()", cache.reads(), model.reads);
        due.is("writes()", cache.writes(), model.writes);
    }
}

import java.util.List;

/** All promises, in long runs of calls that are the same each time, against Model. */
public final class ModelTest {
    // The document promises nothing of later calls.
    private static final int CALLS = 512;
    // What the looks at the end of a run take at most.
    private static final int LOOKS = 200;
    private static final int RUNS = 1000;
    private static final int[] ODD =
            {-1, -2, 3, 4, 16, 17, 63, 64, 65, 128, Integer.MIN_VALUE, Integer.MAX_VALUE};

    private final Due due;
    private final TwoTierCache cache = new TwoTierCache();
    private final Model model = new Model();
    private long seed;

    private ModelTest(Due due, long seed) {
        this.due = due;
        this.seed = seed;
    }

    public static void main(String[] args) {
        Due due = new Due();
        for (int policies = 0; policies < 16; policies++) {
            for (int run = 0; run < RUNS; run++) {
                new ModelTest(due, policies * RUNS + run).run(policies / 4, policies % 4, run);
            }
        }
        due.end();
    }

    private int next(int bound) {
        seed = seed * 6364136223846793005L + 1442695040888963407L;
        return (int) ((seed >>> 33) % bound);
    }

    private int oddOr(int bound) {
        return next(20) == 0 ? ODD[next(ODD.length)] : next(bound);
    }

    private void run(int policy0, int policy1, int run) {
        int capacity0 = 1 + next(run % 2 == 0 ? 16 : 5);
        int capacity1 = 1 + next(run % 3 == 0 ? 16 : 9);
        // Few pages more than places, or many: pages gone out come back often only with few.
        int pages = Math.min(64, 2 + capacity0 + next(run % 5 == 0 ? 60 : 14));
        if (run > 0) {
            begin(policy0, capacity0, policy1, capacity1);
        }
        // Runs of many lengths, as the looks at their ends see the most.
        int last = run % 4 == 0 ? CALLS - LOOKS : 2 + next(CALLS - LOOKS - 1);
        for (int call = 2; call <= last; call++) {
            step(pages);
        }
        if (run % 3 == 0) {
            lookAtPages(run % 2);
        } else {
            lookAtRows();
        }
    }

    private void begin(int policy0, int capacity0, int policy1, int capacity1) {
        due.is("begin", cache.begin(policy0, capacity0, policy1, capacity1),
                model.begin(policy0, capacity0, policy1, capacity1));
    }

    /** One call. */
    private void step(int pages) {
        int kind = next(400);
        if (kind == 0) {
            begin(oddOr(4), oddOr(17), oddOr(4), oddOr(17));
        } else if (kind < 6) {
            due.is("flush()", cache.flush(), model.flush());
        } else if (kind < 80) {
            look(next(8), oddOr(2), pages);
        } else {
            // Two draws, the lesser of them: some pages come often, some seldom.
            int page = kind < 86 ? ODD[next(ODD.length)] : Math.min(next(pages), next(pages));
            boolean writing = next(3) == 0;
            due.is("access(" + page + ")", cache.access(page, writing),
                    model.access(page, writing));
        }
    }

    /** One call that looks, often with arguments that there are not. */
    private void look(int kind, int t, int pages) {
        int page = oddOr(pages);
        int row = oddOr(4);
        int i = oddOr(6);
        int what = oddOr(3);
        switch (kind) {
            case 0 -> due.is("resident", cache.resident(t, page), model.resident(t, page));
            case 1 -> due.is("dirty", cache.dirty(t, page), model.dirty(t, page));
            case 2 -> due.is("marked", cache.marked(t, page), model.marked(t, page));
            case 3 -> due.is("row", cache.row(t, row, i), model.row(t, row, i));
            case 4 -> due.is("goal", cache.goal(t), model.goal(t));
            case 5 -> due.is("count", cache.count(t, what), model.count(t, what));
            case 6 -> due.is("reads()", cache.reads(), model.reads);
            default -> due.is("writes()", cache.writes(), model.writes);
        }
    }

    private void lookAtRows() {
        for (int t = 0; t < 2; t++) {
            for (int row = 0; row < 4; row++) {
                List<Integer> pages = model.tiers[t].rows.get(row);
                due.row(cache, t, row, pages.stream().mapToInt(page -> page).toArray());
            }
            for (int what = 0; what < 3; what++) {
                due.is("count", cache.count(t, what), model.count(t, what));
            }
            due.is("goal", cache.goal(t), model.goal(t));
        }
        due.is("reads()", cache.reads(), model.reads);
        due.is("writes()", cache.writes(), model.writes);
        due.is("flush()", cache.flush(), model.flush());
    }

    private void lookAtPages(int t) {
        for (int page = 0; page < 64; page++) {
            due.is("resident", cache.resident(t, page), model.resident(t, page));
            due.is("dirty", cache.dirty(t, page), model.dirty(t, page));
            due.is("marked", cache.marked(t, page), model.marked(t, page));
        }
    }
}

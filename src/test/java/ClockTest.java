/** The Terms of policy 1, CLOCK, and promise 7, marked. */
public final class ClockTest {
    public static void main(String[] args) {
        Due due = new Due();
        hitsMarkAndMoveNothing(due);
        sparesTheMarkedOnce(due);
        goesRoundWhenAllAreMarked(due);
        comesBackNotMarked(due);
        holdsOnePage(due);
        marksInTierOne(due);
        otherPoliciesMarkNothing(due);
        answersFalseForNoPageAndNoTier(due);
        due.end();
    }

    private static TwoTierCache clockOfThree() {
        TwoTierCache cache = new TwoTierCache();
        cache.begin(1, 3, 0, 16);
        Due.read(cache, 1, 2, 3);
        return cache;
    }

    private static void hitsMarkAndMoveNothing(Due due) {
        TwoTierCache cache = clockOfThree();
        due.row(cache, 0, 0, 1, 2, 3);
        due.markedPages(cache, 0);
        Due.read(cache, 3);
        Due.write(cache, 1);
        due.row(cache, 0, 0, 1, 2, 3);
        due.markedPages(cache, 0, 1, 3);
        Due.read(cache, 1);
        due.markedPages(cache, 0, 1, 3);
    }

    private static void sparesTheMarkedOnce(Due due) {
        TwoTierCache cache = clockOfThree();
        Due.read(cache, 1, 3, 4);
        due.row(cache, 0, 0, 3, 1, 4);
        due.markedPages(cache, 0, 3);
        Due.read(cache, 5);
        due.row(cache, 0, 0, 4, 3, 5);
        due.markedPages(cache, 0);
        due.residents(cache, 0, 3, 4, 5);
    }

    private static void goesRoundWhenAllAreMarked(Due due) {
        TwoTierCache cache = clockOfThree();
        Due.read(cache, 3, 2, 1);
        due.markedPages(cache, 0, 1, 2, 3);
        Due.read(cache, 4);
        due.row(cache, 0, 0, 2, 3, 4);
        due.markedPages(cache, 0);
    }

    private static void comesBackNotMarked(Due due) {
        TwoTierCache cache = clockOfThree();
        Due.read(cache, 1, 2, 3, 4);
        due.residents(cache, 0, 2, 3, 4);
        Due.read(cache, 1);
        due.row(cache, 0, 0, 3, 4, 1);
        due.markedPages(cache, 0);
        due.row(cache, 0, 1);
    }

    private static void holdsOnePage(Due due) {
        TwoTierCache cache = new TwoTierCache();
        cache.begin(1, 1, 0, 16);
        Due.read(cache, 1, 1);
        due.markedPages(cache, 0, 1);
        Due.read(cache, 2);
        due.row(cache, 0, 0, 2);
        due.markedPages(cache, 0);
        Due.read(cache, 1);
        due.row(cache, 0, 0, 1);
        due.markedPages(cache, 0);
    }

    private static void marksInTierOne(Due due) {
        TwoTierCache cache = new TwoTierCache();
        cache.begin(0, 1, 1, 2);
        Due.write(cache, 1);
        due.markedPages(cache, 1);
        // Page 1 goes down to tier 1, where it is resident: a hit for writing marks, too.
        Due.read(cache, 2);
        due.row(cache, 1, 0, 1, 2);
        due.markedPages(cache, 1, 1);
        Due.write(cache, 2);
        due.is("flush()", cache.flush(), 2);
        due.markedPages(cache, 1, 1, 2);
        Due.read(cache, 3);
        due.row(cache, 1, 0, 2, 3);
        due.markedPages(cache, 1);
    }

    private static void otherPoliciesMarkNothing(Due due) {
        TwoTierCache cache = new TwoTierCache();
        for (int policy = 0; policy < 4; policy++) {
            if (policy != 1) {
                cache.begin(policy, 2, policy, 4);
                Due.read(cache, 1, 1, 2, 2, 3, 1, 1);
                due.markedPages(cache, 0);
                due.markedPages(cache, 1);
            }
        }
    }

    private static void answersFalseForNoPageAndNoTier(Due due) {
        TwoTierCache cache = new TwoTierCache();
        cache.begin(1, 16, 1, 16);
        Due.read(cache, 0, 0, 63, 63, 1, 1);
        due.markedPages(cache, 0, 0, 1, 63);
        int[] none = {-1, 64, 65, 127, 128, -64, Integer.MIN_VALUE, Integer.MAX_VALUE};
        for (int page : none) {
            due.is("marked(0, " + page + ")", cache.marked(0, page), false);
        }
        int[] noTiers = {-1, 2, Integer.MIN_VALUE, Integer.MAX_VALUE};
        for (int tier : noTiers) {
            due.is("marked(" + tier + ", 1)", cache.marked(tier, 1), false);
        }
    }
}

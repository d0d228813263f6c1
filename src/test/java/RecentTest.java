/** The Terms of policy 0, RECENT. */
public final class RecentTest {
    public static void main(String[] args) {
        Due due = new Due();
        hitsComeToTheHead(due);
        missesPushTheTailOut(due);
        holdsOnePage(due);
        due.end();
    }

    private static void hitsComeToTheHead(Due due) {
        TwoTierCache cache = new TwoTierCache();
        cache.begin(0, 3, 0, 16);
        Due.read(cache, 1, 2, 3);
        due.row(cache, 0, 0, 3, 2, 1);
        Due.read(cache, 3);
        due.row(cache, 0, 0, 3, 2, 1);
        Due.read(cache, 2);
        due.row(cache, 0, 0, 2, 3, 1);
        Due.write(cache, 1);
        due.row(cache, 0, 0, 1, 2, 3);
    }

    private static void missesPushTheTailOut(Due due) {
        TwoTierCache cache = new TwoTierCache();
        cache.begin(0, 3, 0, 16);
        Due.read(cache, 1, 2, 3, 1, 4);
        due.row(cache, 0, 0, 4, 1, 3);
        due.residents(cache, 0, 1, 3, 4);
        Due.read(cache, 2);
        due.row(cache, 0, 0, 2, 4, 1);
        due.row(cache, 0, 1);
        due.row(cache, 0, 2);
        due.row(cache, 0, 3);
    }

    private static void holdsOnePage(Due due) {
        TwoTierCache cache = new TwoTierCache();
        cache.begin(0, 1, 0, 16);
        Due.read(cache, 1, 1, 2);
        due.row(cache, 0, 0, 2);
        Due.read(cache, 1);
        due.row(cache, 0, 0, 1);
    }
}

/**
 * Two tiers of cache before a memory, each by one of four policies that say which page goes when
 * another one must come in; pages that were written go down a tier when they leave, or by flush(),
 * and nothing else does.
 */
public final class TwoTierCache {
    public static final int NONE = -1;

    private static final int PAGES = 64;
    private static final int MAX_CAPACITY = 16;

    private static final int RECENT = 0;
    private static final int CLOCK = 1;
    private static final int QUEUES = 2;
    private static final int BALANCED = 3;

    private final Tier upper;
    private final Tier lower;
    private int pagesRead;
    private int pagesWritten;

    public TwoTierCache() {
        upper = new Tier(RECENT, 4);
        lower = new Tier(RECENT, 8);
    }

    public boolean begin(int policy0, int capacity0, int policy1, int capacity1) {
        if (!isPolicy(policy0) || !isCapacity(capacity0)) {
            return false;
        }
        if (!isPolicy(policy1) || !isCapacity(capacity1)) {
            return false;
        }
        upper.restart(policy0, capacity0);
        lower.restart(policy1, capacity1);
        pagesRead = 0;
        pagesWritten = 0;
        return true;
    }

    public int access(int page, boolean writing) {
        if (!isPage(page)) {
            return NONE;
        }
        boolean hit = upper.holds(page);
        int victim = upper.touch(page);
        int answer = 0;
        if (!hit) {
            answer = askLower(page, false) ? 1 : 2;
        }
        if (upper.cleanVictim(victim)) {
            askLower(victim, true);
        }
        if (writing) {
            upper.soil(page);
        }
        return answer;
    }

    public int flush() {
        int before = pagesWritten;
        for (int page = 0; page < PAGES; page++) {
            if (upper.clean(page)) {
                askLower(page, true);
            }
        }
        for (int page = 0; page < PAGES; page++) {
            if (lower.clean(page)) {
                pagesWritten++;
            }
        }
        return pagesWritten - before;
    }

    public boolean resident(int tier, int page) {
        Tier asked = tierAt(tier);
        return asked != null && isPage(page) && asked.holds(page);
    }

    public boolean dirty(int tier, int page) {
        Tier asked = tierAt(tier);
        return asked != null && isPage(page) && asked.isDirty(page);
    }

    public boolean marked(int tier, int page) {
        Tier asked = tierAt(tier);
        return asked != null && isPage(page) && asked.isMarked(page);
    }

    public int row(int tier, int row, int i) {
        Tier asked = tierAt(tier);
        return asked == null ? NONE : asked.pageAt(row, i);
    }

    public int goal(int tier) {
        Tier asked = tierAt(tier);
        return asked == null ? NONE : asked.currentGoal();
    }

    public int count(int tier, int what) {
        Tier asked = tierAt(tier);
        return asked == null ? NONE : asked.tally(what);
    }

    public int reads() {
        return pagesRead;
    }

    public int writes() {
        return pagesWritten;
    }

    /** Asks tier 1 for a page and answers whether that was a hit. */
    private boolean askLower(int page, boolean writing) {
        boolean hit = lower.holds(page);
        int victim = lower.touch(page);
        // A page that comes down from tier 0 is there whole: the memory has nothing to add to it.
        if (!hit && !writing) {
            pagesRead++;
        }
        if (lower.cleanVictim(victim)) {
            pagesWritten++;
        }
        if (writing) {
            lower.soil(page);
        }
        return hit;
    }

    private Tier tierAt(int tier) {
        if (tier == 0) {
            return upper;
        }
        return tier == 1 ? lower : null;
    }

    private static boolean isPage(int page) {
        return page >= 0 && page < PAGES;
    }

    private static boolean isPolicy(int policy) {
        return policy >= RECENT && policy <= BALANCED;
    }

    private static boolean isCapacity(int capacity) {
        return capacity >= 1 && capacity <= MAX_CAPACITY;
    }

    /** One tier: its rows, moved by its policy, which of its pages are dirty, and its counts. */
    private static final class Tier {
        private static final int ROWS = 4;

        private final PageRow[] rows;
        private int policy;
        private int capacity;
        private int goal;
        // One bit a page.
        private long dirtyPages;
        private long markedPages;
        private int hits;
        private int misses;
        private int dirtyVictims;

        Tier(int policy, int capacity) {
            rows = new PageRow[ROWS];
            for (int i = 0; i < ROWS; i++) {
                rows[i] = new PageRow();
            }
            this.policy = policy;
            this.capacity = capacity;
        }

        void restart(int newPolicy, int newCapacity) {
            for (int i = 0; i < ROWS; i++) {
                rows[i].clear();
            }
            policy = newPolicy;
            capacity = newCapacity;
            goal = 0;
            dirtyPages = 0;
            markedPages = 0;
            hits = 0;
            misses = 0;
            dirtyVictims = 0;
        }

        boolean holds(int page) {
            // RECENT and CLOCK leave row 1 empty, so it can be looked at for them, too.
            int second = policy == QUEUES ? 2 : 1;
            return rows[0].has(page) || rows[second].has(page);
        }

        boolean isDirty(int page) {
            return (dirtyPages & bit(page)) != 0;
        }

        boolean isMarked(int page) {
            return (markedPages & bit(page)) != 0;
        }

        int pageAt(int row, int i) {
            return row >= 0 && row < ROWS ? rows[row].at(i) : NONE;
        }

        int currentGoal() {
            return policy == BALANCED ? goal : NONE;
        }

        int tally(int what) {
            switch (what) {
                case 0:
                    return hits;
                case 1:
                    return misses;
                case 2:
                    return dirtyVictims;
                default:
                    return NONE;
            }
        }

        void soil(int page) {
            dirtyPages |= bit(page);
        }

        /** Makes a page not dirty and answers whether it was. */
        boolean clean(int page) {
            boolean was = isDirty(page);
            dirtyPages &= ~bit(page);
            return was;
        }

        /** Answers whether there is a victim that must go down, and counts it then. */
        boolean cleanVictim(int victim) {
            if (victim == NONE || !clean(victim)) {
                return false;
            }
            dirtyVictims++;
            return true;
        }

        /** Touches a page and answers the victim, NONE when there is none. */
        int touch(int page) {
            if (holds(page)) {
                hits++;
            } else {
                misses++;
            }
            switch (policy) {
                case RECENT:
                    return touchRecent(page);
                case CLOCK:
                    return touchClock(page);
                case QUEUES:
                    return touchQueues(page);
                default:
                    return touchBalanced(page);
            }
        }

        private int touchRecent(int page) {
            PageRow row = rows[0];
            int victim = NONE;
            if (!row.remove(page) && row.size() == capacity) {
                victim = row.takeTail();
            }
            row.addHead(page);
            return victim;
        }

        private int touchClock(int page) {
            PageRow row = rows[0];
            if (row.has(page)) {
                markedPages |= bit(page);
                return NONE;
            }
            int victim = NONE;
            if (row.size() == capacity) {
                spareMarked(row);
                victim = row.takeHead();
            }
            row.addTail(page);
            return victim;
        }

        /** Brings the first page that is not marked to the head. */
        private void spareMarked(PageRow row) {
            // Once round the row no page is marked any more.
            int once = row.size();
            for (int i = 0; i < once && isMarked(row.at(0)); i++) {
                markedPages &= ~bit(row.at(0));
                row.turn();
            }
        }

        private int touchQueues(int page) {
            PageRow in = rows[0];
            PageRow out = rows[1];
            PageRow main = rows[2];
            if (main.remove(page)) {
                main.addHead(page);
                return NONE;
            }
            if (in.has(page)) {
                return NONE;
            }
            // It leaves row 1 before room is made, so that the victim takes its place there.
            PageRow next = out.remove(page) ? main : in;
            int victim = makeRoom(in, out, main);
            next.addHead(page);
            return victim;
        }

        private int makeRoom(PageRow in, PageRow out, PageRow main) {
            if (in.size() + main.size() < capacity) {
                return NONE;
            }
            if (in.size() <= capacity / 4) {
                return main.takeTail();
            }
            int victim = in.takeTail();
            out.addHead(victim);
            if (out.size() > Math.max(1, capacity / 2)) {
                out.takeTail();
            }
            return victim;
        }

        private int touchBalanced(int page) {
            if (rows[0].remove(page) || rows[1].remove(page)) {
                rows[1].addHead(page);
                return NONE;
            }
            if (rows[2].has(page)) {
                goal = Math.min(capacity, goal + goalStep(rows[3], rows[2]));
                return comeBack(page, rows[2], false);
            }
            if (rows[3].has(page)) {
                goal = Math.max(0, goal - goalStep(rows[2], rows[3]));
                return comeBack(page, rows[3], true);
            }
            int victim = makeRoomForNew();
            rows[0].addHead(page);
            return victim;
        }

        private static int goalStep(PageRow other, PageRow own) {
            return own.size() == 0 ? 1 : Math.max(1, other.size() / own.size());
        }

        private int comeBack(int page, PageRow from, boolean fromRow3) {
            int victim = putOut(fromRow3);
            from.remove(page);
            rows[1].addHead(page);
            return victim;
        }

        private int makeRoomForNew() {
            int once = rows[0].size() + rows[2].size();
            int all = once + rows[1].size() + rows[3].size();
            if (once == capacity) {
                if (rows[0].size() == capacity) {
                    return rows[0].takeTail();
                }
                rows[2].takeTail();
                return putOut(false);
            }
            if (all < capacity) {
                return NONE;
            }
            if (all == 2 * capacity) {
                rows[3].takeTail();
            }
            return putOut(false);
        }

        private int putOut(boolean fromRow3) {
            int first = rows[0].size();
            boolean overGoal = first > goal || (first == goal && fromRow3);
            boolean fromFirst = first > 0 && overGoal;
            int victim = rows[fromFirst ? 0 : 1].takeTail();
            rows[fromFirst ? 2 : 3].addHead(victim);
            return victim;
        }

        private static long bit(int page) {
            return 1L << page;
        }
    }

    /** Pages in their order, the head first; a page stands in it once at most. */
    private static final class PageRow {
        // A row that BALANCED keeps of pages gone out has one page too many
        // between the putting out of one page and the leaving of another.
        private static final int PLACES = MAX_CAPACITY + 1;

        private final int[] pages = new int[PLACES];
        private int size;

        void clear() {
            size = 0;
        }

        int size() {
            return size;
        }

        int at(int i) {
            return i >= 0 && i < size ? pages[i] : NONE;
        }

        boolean has(int page) {
            return placeOf(page) != NONE;
        }

        void addHead(int page) {
            if (page == NONE || size == PLACES) {
                return;
            }
            System.arraycopy(pages, 0, pages, 1, size);
            pages[0] = page;
            size++;
        }

        void addTail(int page) {
            if (page == NONE || size == PLACES) {
                return;
            }
            pages[size] = page;
            size++;
        }

        /** The head comes to the tail. */
        void turn() {
            if (size == 0) {
                return;
            }
            int head = pages[0];
            System.arraycopy(pages, 1, pages, 0, size - 1);
            pages[size - 1] = head;
        }

        int takeHead() {
            int page = at(0);
            remove(page);
            return page;
        }

        int takeTail() {
            if (size == 0) {
                return NONE;
            }
            size--;
            return pages[size];
        }

        /** Answers whether the page was there. */
        boolean remove(int page) {
            int place = placeOf(page);
            if (place == NONE) {
                return false;
            }
            size--;
            System.arraycopy(pages, place + 1, pages, place, size - place);
            return true;
        }

        private int placeOf(int page) {
            for (int i = 0; i < size; i++) {
                if (pages[i] == page) {
                    return i;
                }
            }
            return NONE;
        }
    }
}

import java.util.ArrayList;
import java.util.List;
import java.util.TreeSet;

/**
 * The document told once more, as plainly as it goes and without a line of the program: what the
 * program answers in long runs is compared with this.
 */
final class Model {
    static final int NONE = -1;

    final ModelTier[] tiers = {new ModelTier(0, 4), new ModelTier(0, 8)};
    int reads;
    int writes;

    boolean begin(int policy0, int capacity0, int policy1, int capacity1) {
        boolean policies = 0 <= policy0 && policy0 <= 3 && 0 <= policy1 && policy1 <= 3;
        boolean capacities =
                1 <= capacity0 && capacity0 <= 16 && 1 <= capacity1 && capacity1 <= 16;
        if (policies && capacities) {
            tiers[0] = new ModelTier(policy0, capacity0);
            tiers[1] = new ModelTier(policy1, capacity1);
            reads = 0;
            writes = 0;
        }
        return policies && capacities;
    }

    int access(int page, boolean writing) {
        if (page < 0 || page > 63) {
            return NONE;
        }
        return ask(0, page, writing);
    }

    /** How many tiers missed the page, as far as it was asked for. */
    private int ask(int t, int page, boolean writing) {
        ModelTier tier = tiers[t];
        TreeSet<Integer> before = tier.residents();
        boolean hit = before.contains(page);
        tier.counts[hit ? 0 : 1]++;
        tier.touch(page);
        int missed = hit ? 0 : 1;
        if (!hit && t == 0) {
            missed += ask(1, page, false);
        } else if (!hit && !writing) {
            reads++;
        }
        before.removeAll(tier.residents());
        if (before.size() > 1) {
            throw new IllegalStateException("more than one victim");
        }
        for (int victim : before) {
            if (tier.dirty.remove(victim)) {
                tier.counts[2]++;
                goDown(t, victim);
            }
        }
        if (writing) {
            tier.dirty.add(page);
        }
        return missed;
    }

    private void goDown(int t, int page) {
        if (t == 0) {
            ask(1, page, true);
        } else {
            writes++;
        }
    }

    int flush() {
        int before = writes;
        for (int t = 0; t < 2; t++) {
            while (!tiers[t].dirty.isEmpty()) {
                goDown(t, tiers[t].dirty.pollFirst());
            }
        }
        return writes - before;
    }

    boolean resident(int t, int page) {
        return isTier(t) && tiers[t].residents().contains(page);
    }

    boolean dirty(int t, int page) {
        return isTier(t) && tiers[t].dirty.contains(page);
    }

    boolean marked(int t, int page) {
        return isTier(t) && tiers[t].marked.contains(page);
    }

    int row(int t, int row, int i) {
        boolean isRow = isTier(t) && 0 <= row && row <= 3;
        boolean isPlace = isRow && 0 <= i && i < tiers[t].size(row);
        return isPlace ? tiers[t].rows.get(row).get(i) : NONE;
    }

    int goal(int t) {
        return isTier(t) && tiers[t].policy == 3 ? tiers[t].goal : NONE;
    }

    int count(int t, int what) {
        return isTier(t) && 0 <= what && what <= 2 ? tiers[t].counts[what] : NONE;
    }

    private static boolean isTier(int t) {
        return t == 0 || t == 1;
    }

    /** A tier; in its rows the first element is the head. */
    static final class ModelTier {
        final int policy;
        final int c;
        final List<List<Integer>> rows = new ArrayList<>();
        final TreeSet<Integer> dirty = new TreeSet<>();
        final TreeSet<Integer> marked = new TreeSet<>();
        final int[] counts = new int[3];
        int goal;

        ModelTier(int policy, int capacity) {
            this.policy = policy;
            this.c = capacity;
            for (int i = 0; i < 4; i++) {
                rows.add(new ArrayList<>());
            }
        }

        TreeSet<Integer> residents() {
            TreeSet<Integer> all = new TreeSet<>(rows.get(0));
            if (policy == 2) {
                all.addAll(rows.get(2));
            }
            if (policy == 3) {
                all.addAll(rows.get(1));
            }
            if (all.size() > c) {
                throw new IllegalStateException("more pages than the capacity");
            }
            return all;
        }

        private int rowOf(int page) {
            for (int i = 0; i < 4; i++) {
                if (rows.get(i).contains(page)) {
                    return i;
                }
            }
            return NONE;
        }

        private int size(int row) {
            return rows.get(row).size();
        }

        private int tailLeaves(int row) {
            return rows.get(row).remove(size(row) - 1);
        }

        private void leaves(int page) {
            for (List<Integer> row : rows) {
                row.remove((Integer) page);
            }
        }

        private void comesToHead(int row, int page) {
            leaves(page);
            rows.get(row).add(0, page);
        }

        private void comesToTail(int row, int page) {
            leaves(page);
            rows.get(row).add(page);
        }

        void touch(int x) {
            switch (policy) {
                case 0 -> recent(x);
                case 1 -> clock(x);
                case 2 -> queues(x);
                default -> balanced(x);
            }
        }

        private void recent(int x) {
            if (rowOf(x) == NONE && size(0) == c) {
                tailLeaves(0);
            }
            comesToHead(0, x);
        }

        private void clock(int x) {
            if (rowOf(x) == 0) {
                marked.add(x);
                return;
            }
            if (size(0) == c) {
                while (marked.remove(rows.get(0).get(0))) {
                    comesToTail(0, rows.get(0).get(0));
                }
                rows.get(0).remove(0);
            }
            comesToTail(0, x);
            marked.remove(x);
        }

        private void queues(int x) {
            int row = rowOf(x);
            if (row == 2) {
                comesToHead(2, x);
            }
            if (row == 1) {
                leaves(x);
                room();
                comesToHead(2, x);
            }
            if (row == NONE) {
                room();
                comesToHead(0, x);
            }
        }

        private void room() {
            if (size(0) + size(2) == c) {
                if (size(0) > c / 4) {
                    comesToHead(1, rows.get(0).get(size(0) - 1));
                    if (size(1) > (c == 1 ? 1 : c / 2)) {
                        tailLeaves(1);
                    }
                } else {
                    tailLeaves(2);
                }
            }
        }

        private void balanced(int x) {
            int a = size(0);
            int b = size(1);
            int d = size(2);
            int e = size(3);
            int row = rowOf(x);
            if (row == 0 || row == 1) {
                comesToHead(1, x);
            } else if (row == 2) {
                goal = Math.min(c, goal + Math.max(1, e / d));
                putOut(x);
                comesToHead(1, x);
            } else if (row == 3) {
                goal = Math.max(0, goal - Math.max(1, d / e));
                putOut(x);
                comesToHead(1, x);
            } else {
                if (a + d == c) {
                    if (a < c) {
                        tailLeaves(2);
                        putOut(x);
                    } else {
                        tailLeaves(0);
                    }
                } else if (a + d < c && a + b + d + e >= c) {
                    if (a + b + d + e == 2 * c) {
                        tailLeaves(3);
                    }
                    putOut(x);
                }
                comesToHead(0, x);
            }
        }

        private void putOut(int x) {
            boolean justGoal = size(0) == goal && rowOf(x) == 3;
            if (size(0) > 0 && (size(0) > goal || justGoal)) {
                comesToHead(2, rows.get(0).get(size(0) - 1));
            } else {
                comesToHead(3, rows.get(1).get(size(1) - 1));
            }
        }
    }
}

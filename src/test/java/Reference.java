import java.util.ArrayList;
import java.util.List;
import java.util.NoSuchElementException;

/**
 * The document read again in the plainest way, slow and without a limit on room: choices are tried one by one.
 * Its face is DarkDesk's, so that RandomRunsTest can make the same calls on both.
 */
public final class Reference {
    private static final class Work {
        int ticks;
        int hands;
        int weight;
        int cost;
        int stage;
        int toGo;
        boolean thin;
    }

    private record Need(int work, int of, boolean soft) { }

    private record Letter(int from, int sent, int to, int got) { }

    private record Change(int store, int tick) { }

    private static final class Copy {
        int age;
        int log;
        boolean torn;
    }

    private final List<Work> works = new ArrayList<>();
    private final List<Need> needs = new ArrayList<>();
    private final List<List<Copy>> stores = new ArrayList<>();
    private final List<Letter> letters = new ArrayList<>();
    private final List<Change> changes = new ArrayList<>();
    private int[] plan = null;
    private boolean isNight = false;
    private int nightHands;
    private int clock;
    private int away;

    private void workMust(int work) {
        if (work < 0 || work >= works.size()) {
            throw new IndexOutOfBoundsException();
        }
    }

    private void storeMust(int store) {
        if (store < 0 || store >= stores.size()) {
            throw new IndexOutOfBoundsException();
        }
    }

    private static void must(boolean holds) {
        if (!holds) {
            throw new IllegalArgumentException();
        }
    }

    private static void room(boolean there) {
        if (!there) {
            throw new UnsupportedOperationException();
        }
    }

    private void nightMust() {
        if (!isNight) {
            throw new IllegalStateException();
        }
    }

    public int work(int ticks, int hands, int weight, int cost) {
        must(ticks >= 1 && ticks <= 12 && hands >= 1 && hands <= 6);
        must(weight >= 0 && weight <= 100 && cost >= -1 && cost <= 1000);
        room(works.size() < 8);
        Work w = new Work();
        w.ticks = ticks;
        w.hands = hands;
        w.weight = weight;
        w.cost = cost;
        works.add(w);
        plan = null;
        isNight = false;
        return works.size() - 1;
    }

    public int need(int work, int of, boolean soft) {
        workMust(work);
        workMust(of);
        must(work != of);
        room(needs.size() < 40);
        needs.add(new Need(work, of, soft));
        plan = null;
        isNight = false;
        return needs.size();
    }

    private boolean thinIn(int thin, int work) {
        return (thin & (1 << work)) != 0 && works.get(work).cost != -1;
    }

    /** Steps by walking: which works are reached in just so many steps. */
    private int leastSteps(int work, int of, int thin) {
        boolean[] at = new boolean[8];
        at[work] = true;
        for (int step = 1; step <= 8; step++) {
            boolean[] next = new boolean[8];
            for (Need n : needs) {
                if (at[n.work] && !(n.soft && thinIn(thin, n.work))) {
                    next[n.of] = true;
                }
            }
            if (next[of]) {
                return step;
            }
            at = next;
        }
        return -1;
    }

    public int hangs(int work) {
        workMust(work);
        int bits = 0;
        for (int of = 0; of < works.size(); of++) {
            bits += leastSteps(work, of, 0) == -1 ? 0 : 1 << of;
        }
        return bits;
    }

    public int steps(int work, int of) {
        workMust(work);
        workMust(of);
        return leastSteps(work, of, 0);
    }

    public int rings(int thin) {
        int bits = 0;
        for (int work = 0; work < works.size(); work++) {
            bits += leastSteps(work, work, thin) == -1 ? 0 : 1 << work;
        }
        return bits;
    }

    private int thinCost(int thin) {
        int sum = 0;
        for (int work = 0; work < works.size(); work++) {
            sum += thinIn(thin, work) ? works.get(work).cost : 0;
        }
        return sum;
    }

    public int cut() {
        int best = -1;
        for (int set = (1 << works.size()) - 1; set >= 0; set--) {
            boolean can = true;
            for (int work = 0; work < works.size(); work++) {
                can &= (set & (1 << work)) == 0 || works.get(work).cost != -1;
            }
            if (can && rings(set) == 0 && (best == -1 || thinCost(set) <= thinCost(best))) {
                best = set;
            }
        }
        return best;
    }

    public int store() {
        room(stores.size() < 6);
        stores.add(new ArrayList<>());
        return stores.size() - 1;
    }

    private static boolean isTick(int tick) {
        return tick >= 0 && tick <= 100000;
    }

    public int copy(int store, int age, int log) {
        storeMust(store);
        must(isTick(age) && isTick(log) && log >= age);
        room(stores.get(store).size() < 4);
        Copy c = new Copy();
        c.age = age;
        c.log = log;
        stores.get(store).add(c);
        return stores.get(store).size() - 1;
    }

    public boolean torn(int store, int copy, boolean is) {
        storeMust(store);
        if (copy < 0 || copy >= stores.get(store).size()) {
            throw new IndexOutOfBoundsException();
        }
        Copy c = stores.get(store).get(copy);
        boolean other = c.torn ^ is;
        c.torn = is;
        return other;
    }

    public int letter(int from, int sent, int to, int got) {
        storeMust(from);
        storeMust(to);
        must(from != to && isTick(sent) && isTick(got) && got >= sent);
        room(letters.size() < 30);
        letters.add(new Letter(from, sent, to, got));
        return letters.size();
    }

    public int change(int store, int tick) {
        storeMust(store);
        must(isTick(tick));
        room(changes.size() < 80);
        changes.add(new Change(store, tick));
        return changes.size();
    }

    /** The greatest state of each store in any choice that holds; null if none does. */
    private int[] choice() {
        int[] greatest = new int[stores.size()];
        java.util.Arrays.fill(greatest, -1);
        boolean[] found = {false};
        tryStates(0, new int[stores.size()], greatest, found);
        return found[0] ? greatest : null;
    }

    private void tryStates(int store, int[] chosen, int[] greatest, boolean[] found) {
        if (store == stores.size()) {
            for (Letter l : letters) {
                if (l.got <= chosen[l.to] && l.sent > chosen[l.from]) {
                    return;
                }
            }
            found[0] = true;
            for (int i = 0; i < chosen.length; i++) {
                greatest[i] = Math.max(greatest[i], chosen[i]);
            }
            return;
        }
        java.util.TreeSet<Integer> states = new java.util.TreeSet<>();
        for (Copy c : stores.get(store)) {
            for (int tick = c.age; !c.torn && tick <= c.log; tick++) {
                states.add(tick);
            }
        }
        for (int tick : states) {
            chosen[store] = tick;
            tryStates(store + 1, chosen, greatest, found);
        }
    }

    public boolean together() {
        return choice() != null;
    }

    public int state(int store) {
        storeMust(store);
        int[] chosen = choice();
        return chosen == null ? -1 : chosen[store];
    }

    public int lost(int store) {
        storeMust(store);
        int[] chosen = choice();
        if (chosen == null) {
            return -1;
        }
        int later = 0;
        for (Change c : changes) {
            later += c.store == store && c.tick > chosen[store] ? 1 : 0;
        }
        return later;
    }

    public int plan(int hands, int thin) {
        must(hands >= 1 && hands <= 8);
        plan = null;
        if (rings(thin) != 0) {
            return -1;
        }
        for (Work w : works) {
            if (w.hands > hands) {
                return -1;
            }
        }
        int n = works.size();
        int[] best = new int[n + 1];
        best[0] = Integer.MAX_VALUE;
        tryOrders(hands, thin, 0, new int[n], new int[100], best);
        plan = java.util.Arrays.copyOfRange(best, 1, n + 1);
        return best[0] + thinCost(thin);
    }

    /** All orders in which needs go first; each work as early as it can at all among those placed before it. */
    private void tryOrders(int hands, int thin, int placed, int[] start, int[] used, int[] best) {
        int n = works.size();
        if (placed == (1 << n) - 1) {
            keepBetter(start, best);
            return;
        }
        for (int work = 0; work < n; work++) {
            int ready = (placed & (1 << work)) != 0 ? -1 : readyAt(work, thin, placed, start);
            if (ready == -1) {
                continue;
            }
            Work w = works.get(work);
            while (!isFree(used, ready, w, hands)) {
                ready++;
            }
            start[work] = ready;
            for (int t = ready; t < ready + w.ticks; t++) {
                used[t] += w.hands;
            }
            tryOrders(hands, thin, placed | 1 << work, start, used, best);
            for (int t = start[work]; t < start[work] + w.ticks; t++) {
                used[t] -= w.hands;
            }
            start[work] = 0;
        }
    }

    private int readyAt(int work, int thin, int placed, int[] start) {
        int ready = 0;
        for (Need n : needs) {
            if (n.work == work && !(n.soft && thinIn(thin, work))) {
                if ((placed & (1 << n.of)) == 0) {
                    return -1;
                }
                ready = Math.max(ready, start[n.of] + works.get(n.of).ticks);
            }
        }
        return ready;
    }

    private static boolean isFree(int[] used, int from, Work w, int hands) {
        for (int t = from; t < from + w.ticks; t++) {
            if (used[t] + w.hands > hands) {
                return false;
            }
        }
        return true;
    }

    private void keepBetter(int[] start, int[] best) {
        int[] mine = new int[best.length];
        for (int work = 0; work < start.length; work++) {
            mine[0] += works.get(work).weight * (start[work] + works.get(work).ticks);
            mine[work + 1] = start[work];
        }
        if (java.util.Arrays.compare(mine, best) < 0) {
            System.arraycopy(mine, 0, best, 0, best.length);
        }
    }

    public int begins(int work) {
        workMust(work);
        return plan == null ? -1 : plan[work];
    }

    public void night(int hands) {
        must(hands >= 1 && hands <= 8);
        isNight = true;
        nightHands = hands;
        clock = 0;
        away = 0;
        for (Work w : works) {
            fallDown(w);
        }
    }

    private static void fallDown(Work w) {
        w.stage = 0;
        w.toGo = 0;
        w.thin = false;
    }

    private int free() {
        int free = nightHands;
        for (Work w : works) {
            free -= w.stage == 1 ? w.hands : 0;
        }
        return free;
    }

    public boolean begin(int work, boolean thin) {
        workMust(work);
        nightMust();
        Work w = works.get(work);
        if (w.stage != 0 || thin && w.cost == -1 || w.hands > free()) {
            return false;
        }
        for (Need n : needs) {
            if (n.work == work && !(n.soft && thin) && works.get(n.of).stage != 2) {
                return false;
            }
        }
        w.stage = 1;
        w.toGo = w.ticks;
        w.thin = thin;
        away += thin ? w.cost : 0;
        return true;
    }

    public int tick(int n) {
        nightMust();
        must(n >= 0 && n <= 100);
        for (int i = 0; i < n; i++) {
            for (Work w : works) {
                away += w.stage == 2 ? 0 : w.weight;
            }
            for (Work w : works) {
                if (w.stage == 1 && --w.toGo == 0) {
                    w.stage = 2;
                }
            }
            clock++;
        }
        return clock;
    }

    public boolean fail(int work) {
        workMust(work);
        nightMust();
        Work w = works.get(work);
        w.toGo = w.stage == 1 ? w.ticks : 0;
        return w.stage == 1;
    }

    public int blow(int work) {
        workMust(work);
        nightMust();
        if (works.get(work).stage == 0) {
            return 0;
        }
        fallDown(works.get(work));
        int bits = 1 << work;
        boolean more = true;
        while (more) {
            more = false;
            for (Need n : needs) {
                Work w = works.get(n.work);
                if (w.stage != 0 && !(n.soft && w.thin) && works.get(n.of).stage == 0) {
                    fallDown(w);
                    bits |= 1 << n.work;
                    more = true;
                }
            }
        }
        return bits;
    }

    public int look(int work, int what) {
        workMust(work);
        nightMust();
        Work w = works.get(work);
        if (what < 0 || what > 2) {
            throw new NoSuchElementException();
        }
        return what == 0 ? w.stage : what == 1 ? w.toGo : w.thin ? 1 : 0;
    }

    public int now(int what) {
        nightMust();
        if (what < 0 || what > 3) {
            throw new NoSuchElementException();
        }
        int up = 0;
        for (int work = 0; work < works.size(); work++) {
            up += works.get(work).stage == 2 ? 1 << work : 0;
        }
        return what == 0 ? clock : what == 1 ? free() : what == 2 ? away : up;
    }

    public int count(int what) {
        int[] all = {
            works.size(), needs.size(), stores.size(), letters.size(), changes.size(), plan == null ? 0 : 1, isNight ? 1 : 0,
        };
        return what < 0 || what >= all.length ? -1 : all[what];
    }
}

import java.util.Arrays;
import java.util.NoSuchElementException;

/**
 * A desk for the night when everything is down: works and what they need, stores and their copies,
 * the plan that brings all back, and the night itself. The document's promises say what each call does.
 */
public final class DarkDesk {
    public static final int NONE = -1;

    private static final int MAX_WORKS = 8;
    private static final int MAX_TICKS = 12;
    private static final int MAX_WORK_HANDS = 6;
    private static final int MAX_WEIGHT = 100;
    private static final int MAX_COST = 1000;
    private static final int MAX_NEEDS = 40;
    private static final int MAX_STORES = 6;
    private static final int MAX_COPIES = 4;
    private static final int MAX_LETTERS = 30;
    private static final int MAX_CHANGES = 80;
    private static final int LAST_TICK = 100000;
    private static final int MAX_DESK_HANDS = 8;
    private static final int MAX_TICKS_AT_ONCE = 100;

    private final Works works;
    private final Stores stores;
    private final Planner planner;
    private final Night darkness;

    public DarkDesk() {
        works = new Works();
        stores = new Stores();
        planner = new Planner(works);
        darkness = new Night(works);
    }

    public int work(int ticks, int hands, int weight, int cost)
            throws IllegalArgumentException, UnsupportedOperationException {
        if (!isWithin(ticks, 1, MAX_TICKS) || !isWithin(hands, 1, MAX_WORK_HANDS)
                || !isWithin(weight, 0, MAX_WEIGHT) || !isWithin(cost, NONE, MAX_COST)) {
            throw new IllegalArgumentException("a number of a work is none");
        }
        if (works.size >= MAX_WORKS) {
            throw new UnsupportedOperationException("there are 8 works");
        }
        endPlanAndNight();
        return works.addWork(ticks, hands, weight, cost);
    }

    public int need(int work, int of, boolean soft)
            throws IndexOutOfBoundsException, IllegalArgumentException, UnsupportedOperationException {
        requireWork(work);
        requireWork(of);
        if (work == of) {
            throw new IllegalArgumentException("the works are one");
        }
        if (works.needs >= MAX_NEEDS) {
            throw new UnsupportedOperationException("there are 40 needs");
        }
        endPlanAndNight();
        return works.addNeed(work, of, soft);
    }

    public int hangs(int work) throws IndexOutOfBoundsException {
        requireWork(work);
        return works.reachOf(work, 0);
    }

    public int steps(int work, int of) throws IndexOutOfBoundsException {
        requireWork(work);
        requireWork(of);
        return works.leastSteps(work, of);
    }

    public int rings(int thin) {
        return works.inRings(works.thoseThatCan(thin));
    }

    public int cut() {
        return works.cheapestCut();
    }

    public int store() throws UnsupportedOperationException {
        if (stores.size >= MAX_STORES) {
            throw new UnsupportedOperationException("there are 6 stores");
        }
        return stores.addStore();
    }

    public int copy(int store, int age, int log)
            throws IndexOutOfBoundsException, IllegalArgumentException, UnsupportedOperationException {
        requireStore(store);
        requireTick(age);
        requireTick(log);
        if (log < age) {
            throw new IllegalArgumentException("the log is ahead of the age");
        }
        if (stores.copies[store] >= MAX_COPIES) {
            throw new UnsupportedOperationException("the store has 4 copies");
        }
        return stores.addCopy(store, age, log);
    }

    public boolean torn(int store, int copy, boolean is) throws IndexOutOfBoundsException {
        requireStore(store);
        if (copy < 0 || copy >= stores.copies[store]) {
            throw new IndexOutOfBoundsException("there is no such copy");
        }
        return stores.setTorn(store, copy, is);
    }

    public int letter(int from, int sent, int to, int got)
            throws IndexOutOfBoundsException, IllegalArgumentException, UnsupportedOperationException {
        requireStore(from);
        requireStore(to);
        requireTick(sent);
        requireTick(got);
        if (from == to || got < sent) {
            throw new IllegalArgumentException("the stores are one, or it was got ahead of being sent");
        }
        if (stores.letters >= MAX_LETTERS) {
            throw new UnsupportedOperationException("there are 30 letters");
        }
        return stores.addLetter(from, sent, to, got);
    }

    public int change(int store, int tick)
            throws IndexOutOfBoundsException, IllegalArgumentException, UnsupportedOperationException {
        requireStore(store);
        requireTick(tick);
        if (stores.changes >= MAX_CHANGES) {
            throw new UnsupportedOperationException("there are 80 changes");
        }
        return stores.addChange(store, tick);
    }

    public boolean together() {
        return stores.choose();
    }

    public int state(int store) throws IndexOutOfBoundsException {
        requireStore(store);
        return stores.choose() ? stores.chosen[store] : NONE;
    }

    public int lost(int store) throws IndexOutOfBoundsException {
        requireStore(store);
        return stores.choose() ? stores.changesBehind(store, stores.chosen[store]) : NONE;
    }

    public int plan(int hands, int thin) throws IllegalArgumentException {
        requireHands(hands);
        return planner.makePlan(hands, works.thoseThatCan(thin));
    }

    public int begins(int work) throws IndexOutOfBoundsException {
        requireWork(work);
        return planner.there ? planner.best[work] : NONE;
    }

    public void night(int hands) throws IllegalArgumentException {
        requireHands(hands);
        darkness.fall(hands);
    }

    public boolean begin(int work, boolean thin) throws IndexOutOfBoundsException, IllegalStateException {
        requireWork(work);
        requireNight();
        return darkness.launch(work, thin);
    }

    public int tick(int n) throws IllegalStateException, IllegalArgumentException {
        requireNight();
        if (!isWithin(n, 0, MAX_TICKS_AT_ONCE)) {
            throw new IllegalArgumentException("not 0 to 100 ticks");
        }
        return darkness.pass(n);
    }

    public boolean fail(int work) throws IndexOutOfBoundsException, IllegalStateException {
        requireWork(work);
        requireNight();
        return darkness.stumble(work);
    }

    public int blow(int work) throws IndexOutOfBoundsException, IllegalStateException {
        requireWork(work);
        requireNight();
        return darkness.strike(work);
    }

    public int look(int work, int what)
            throws IndexOutOfBoundsException, IllegalStateException, NoSuchElementException {
        requireWork(work);
        requireNight();
        switch (what) {
            case 0:
                return darkness.stage(work);
            case 1:
                return darkness.toGo[work];
            case 2:
                return darkness.thinly >> work & 1;
            default:
                throw new NoSuchElementException("there is no such thing of a work");
        }
    }

    public int now(int what) throws IllegalStateException, NoSuchElementException {
        requireNight();
        switch (what) {
            case 0:
                return darkness.clock;
            case 1:
                return darkness.freeHands();
            case 2:
                return darkness.away;
            case 3:
                return darkness.up;
            default:
                throw new NoSuchElementException("there is no such thing of the night");
        }
    }

    public int count(int what) {
        switch (what) {
            case 0:
                return works.size;
            case 1:
                return works.needs;
            case 2:
                return stores.size;
            case 3:
                return stores.letters;
            case 4:
                return stores.changes;
            case 5:
                return planner.there ? 1 : 0;
            case 6:
                return darkness.there ? 1 : 0;
            default:
                return NONE;
        }
    }

    /** Both rest on the works as they were, so neither may outlive a new work or need. */
    private void endPlanAndNight() {
        planner.there = false;
        darkness.there = false;
    }

    private static boolean isWithin(int number, int least, int greatest) {
        return number >= least && number <= greatest;
    }

    private void requireWork(int work) {
        if (work < 0 || work >= works.size) {
            throw new IndexOutOfBoundsException("there is no such work");
        }
    }

    private void requireStore(int store) {
        if (store < 0 || store >= stores.size) {
            throw new IndexOutOfBoundsException("there is no such store");
        }
    }

    private static void requireTick(int tick) {
        if (!isWithin(tick, 0, LAST_TICK)) {
            throw new IllegalArgumentException("the tick is none");
        }
    }

    private static void requireHands(int hands) {
        if (!isWithin(hands, 1, MAX_DESK_HANDS)) {
            throw new IllegalArgumentException("so many hands are none");
        }
    }

    private void requireNight() {
        if (!darkness.there) {
            throw new IllegalStateException("there is no night");
        }
    }

    /** The works and what they need; a set of works is held as bits, the work's number being the bit's. */
    private static final class Works {
        private final int[] ticks = new int[MAX_WORKS];
        private final int[] hands = new int[MAX_WORKS];
        private final int[] weight = new int[MAX_WORKS];
        private final int[] cost = new int[MAX_WORKS];
        private final int[] needed = new int[MAX_WORKS];
        private final int[] neededEvenThin = new int[MAX_WORKS];
        private int size;
        private int needs;

        int addWork(int itsTicks, int itsHands, int itsWeight, int itsCost) {
            int work = size;
            ticks[work] = itsTicks;
            hands[work] = itsHands;
            weight[work] = itsWeight;
            cost[work] = itsCost;
            size++;
            return work;
        }

        int addNeed(int work, int of, boolean soft) {
            needed[work] |= 1 << of;
            if (!soft) {
                neededEvenThin[work] |= 1 << of;
            }
            needs++;
            return needs;
        }

        int everyWork() {
            return (1 << size) - 1;
        }

        boolean canBeThin(int work) {
            return cost[work] != NONE;
        }

        int thoseThatCan(int set) {
            int can = 0;
            for (int work = 0; work < size; work++) {
                if ((set >> work & 1) != 0 && canBeThin(work)) {
                    can |= 1 << work;
                }
            }
            return can;
        }

        int needsOf(int work, int thin) {
            return (thin >> work & 1) != 0 ? neededEvenThin[work] : needed[work];
        }

        int needsOfAll(int set, int thin) {
            int all = 0;
            for (int work = 0; work < size; work++) {
                if ((set >> work & 1) != 0) {
                    all |= needsOf(work, thin);
                }
            }
            return all;
        }

        int reachOf(int work, int thin) {
            int reached = needsOf(work, thin);
            for (int round = 0; round < size; round++) {
                int wider = reached | needsOfAll(reached, thin);
                if (wider == reached) {
                    break;
                }
                reached = wider;
            }
            return reached;
        }

        /** No least way is longer than there are works, as it would pass one of them twice. */
        int leastSteps(int work, int of) {
            int front = needsOf(work, 0);
            for (int way = 1; way <= size; way++) {
                if ((front >> of & 1) != 0) {
                    return way;
                }
                front = needsOfAll(front, 0);
            }
            return NONE;
        }

        int inRings(int thin) {
            int ringed = 0;
            for (int work = 0; work < size; work++) {
                if ((reachOf(work, thin) >> work & 1) != 0) {
                    ringed |= 1 << work;
                }
            }
            return ringed;
        }

        /** Takes away, again and again, what needs nothing of the rest: a rest that stays hangs on a ring. */
        boolean hasRing(int thin) {
            int rest = everyWork();
            for (int round = 0; round < size && rest != 0; round++) {
                int before = rest;
                for (int work = 0; work < size; work++) {
                    if ((rest >> work & 1) != 0 && (needsOf(work, thin) & rest) == 0) {
                        rest &= ~(1 << work);
                    }
                }
                if (rest == before) {
                    return true;
                }
            }
            return rest != 0;
        }

        /** Sets come in the order of their bits as numbers, so the first of a least sum is the one that is due. */
        int cheapestCut() {
            int cheapest = NONE;
            int least = 0;
            int every = everyWork();
            for (int set = 0; set <= every; set++) {
                if (thoseThatCan(set) != set) {
                    continue;
                }
                int sum = costOf(set);
                if ((cheapest == NONE || sum < least) && !hasRing(set)) {
                    cheapest = set;
                    least = sum;
                }
            }
            return cheapest;
        }

        int costOf(int set) {
            int sum = 0;
            for (int work = 0; work < size; work++) {
                if ((set >> work & 1) != 0) {
                    sum += cost[work];
                }
            }
            return sum;
        }
    }

    /** The stores with their copies, letters and changes, and the states that belong together. */
    private static final class Stores {
        private final int[] copies = new int[MAX_STORES];
        private final int[] age = new int[MAX_STORES * MAX_COPIES];
        private final int[] log = new int[MAX_STORES * MAX_COPIES];
        private final boolean[] isTorn = new boolean[MAX_STORES * MAX_COPIES];
        private final int[] from = new int[MAX_LETTERS];
        private final int[] sent = new int[MAX_LETTERS];
        private final int[] to = new int[MAX_LETTERS];
        private final int[] got = new int[MAX_LETTERS];
        private final int[] changed = new int[MAX_CHANGES];
        private final int[] changedAt = new int[MAX_CHANGES];
        private final int[] chosen = new int[MAX_STORES];
        private int size;
        private int letters;
        private int changes;

        int addStore() {
            int store = size;
            size++;
            return store;
        }

        int addCopy(int store, int itsAge, int itsLog) {
            int copy = copies[store];
            age[store * MAX_COPIES + copy] = itsAge;
            log[store * MAX_COPIES + copy] = itsLog;
            copies[store]++;
            return copy;
        }

        boolean setTorn(int store, int copy, boolean is) {
            int place = store * MAX_COPIES + copy;
            boolean another = isTorn[place] != is;
            isTorn[place] = is;
            return another;
        }

        int addLetter(int sender, int sentAt, int receiver, int gotAt) {
            from[letters] = sender;
            sent[letters] = sentAt;
            to[letters] = receiver;
            got[letters] = gotAt;
            letters++;
            return letters;
        }

        int addChange(int store, int at) {
            changed[changes] = store;
            changedAt[changes] = at;
            changes++;
            return changes;
        }

        /** The greatest state up to a tick that a copy of the store gives, or NONE. */
        int greatestUpTo(int store, int limit) {
            int greatest = NONE;
            for (int copy = 0; copy < copies[store]; copy++) {
                int place = store * MAX_COPIES + copy;
                if (!isTorn[place] && age[place] <= limit) {
                    greatest = Math.max(greatest, Math.min(log[place], limit));
                }
            }
            return greatest;
        }

        /**
         * Begins with each store's greatest state and goes back only where a letter forces it, so what
         * stays is the greatest of all choices. A letter forces its receiver back once at most, as the
         * receiver is behind it from then on; so there are no more rounds than letters, and one.
         */
        boolean choose() {
            for (int store = 0; store < size; store++) {
                chosen[store] = greatestUpTo(store, LAST_TICK);
                if (chosen[store] == NONE) {
                    return false;
                }
            }
            for (int round = 0; round <= letters; round++) {
                boolean forced = false;
                for (int letter = 0; letter < letters; letter++) {
                    if (!isGotButNotSent(letter)) {
                        continue;
                    }
                    int receiver = to[letter];
                    chosen[receiver] = greatestUpTo(receiver, got[letter] - 1);
                    if (chosen[receiver] == NONE) {
                        return false;
                    }
                    forced = true;
                }
                if (!forced) {
                    return true;
                }
            }
            return true;
        }

        private boolean isGotButNotSent(int letter) {
            return got[letter] <= chosen[to[letter]] && sent[letter] > chosen[from[letter]];
        }

        int changesBehind(int store, int at) {
            int later = 0;
            for (int change = 0; change < changes; change++) {
                if (changed[change] == store && changedAt[change] > at) {
                    later++;
                }
            }
            return later;
        }
    }

    /**
     * Looks for the plan. In the plan that is due no work could begin earlier with all others as they are
     * (it would be a better plan), so it is enough to place the works in the order in which they begin,
     * of works that begin together the lower number first, each as early as it can behind the last.
     * Two plans are compared by what is AWAY and then by a key that holds all begins, work 0's on top.
     */
    private static final class Planner {
        private static final int END = MAX_WORKS * MAX_TICKS;
        private static final int NO_AWAY = 1000000;
        private static final int KEY_BITS = 7;
        private static final int KEY_MASK = 127;

        private final Works works;
        private final int[] needs = new int[MAX_WORKS];
        private final int[] byNeed = new int[MAX_WORKS];
        private final int[] byWorth = new int[MAX_WORKS];
        private final int[] used = new int[END + 1];
        private final int[] start = new int[MAX_WORKS];
        private final int[] early = new int[(MAX_WORKS + 1) * MAX_WORKS];
        private final int[] seenAway = new int[1 << MAX_WORKS];
        private final long[] seenKey = new long[1 << MAX_WORKS];
        private final int[] best = new int[MAX_WORKS];
        private boolean there;
        private int hands;
        private int bestAway;
        private long bestKey;
        private int hopeAway;
        private long hopeKey;
        private int soonest;
        private int firstUp;

        Planner(Works its) {
            works = its;
        }

        int makePlan(int itsHands, int thin) {
            there = false;
            hands = itsHands;
            if (!fitsHands() || works.hasRing(thin)) {
                return NONE;
            }
            sortByNeed(thin);
            sortByWorth();
            Arrays.fill(used, 0);
            Arrays.fill(early, 0);
            Arrays.fill(seenAway, NO_AWAY);
            bestAway = NO_AWAY;
            bestKey = 0L;
            explore(0, 0, NONE, 0, 0L);
            there = true;
            return bestAway + works.costOf(thin);
        }

        private boolean fitsHands() {
            for (int work = 0; work < works.size; work++) {
                if (works.hands[work] > hands) {
                    return false;
                }
            }
            return true;
        }

        /** There is no ring here, so each round finds at least one more work. */
        private void sortByNeed(int thin) {
            int sorted = 0;
            int done = 0;
            for (int round = 0; round < works.size; round++) {
                for (int work = 0; work < works.size; work++) {
                    needs[work] = works.needsOf(work, thin);
                    if ((done >> work & 1) == 0 && (needs[work] & ~done) == 0 && sorted < MAX_WORKS) {
                        byNeed[sorted] = work;
                        sorted++;
                        done |= 1 << work;
                    }
                }
            }
        }

        /** Much weight for few hands and ticks goes first: a good plan found early spares most of the others. */
        private void sortByWorth() {
            for (int work = 0; work < works.size; work++) {
                int place = work;
                while (place > 0 && isWorthMore(work, byWorth[place - 1])) {
                    byWorth[place] = byWorth[place - 1];
                    place--;
                }
                byWorth[place] = work;
            }
        }

        private boolean isWorthMore(int one, int other) {
            return works.weight[one] * works.ticks[other] * works.hands[other]
                    > works.weight[other] * works.ticks[one] * works.hands[one];
        }

        /** Goes on from the placed works, with what is AWAY by them and their key; last is the last placed. */
        private void explore(int depth, int placed, int last, int away, long key) {
            if (depth > MAX_WORKS) {
                return;
            }
            int from = last == NONE ? 0 : start[last];
            hope(depth, placed, from, away, key);
            if (!isLess(hopeAway, hopeKey, bestAway, bestKey)) {
                return;
            }
            if (placed == works.everyWork()) {
                bestAway = away;
                bestKey = key;
                System.arraycopy(start, 0, best, 0, MAX_WORKS);
                return;
            }
            if (isOutdone(placed, away, key)) {
                return;
            }
            int until = firstUp;
            for (int i = 0; i < works.size; i++) {
                int work = byWorth[i];
                int at = early[depth * MAX_WORKS + work];
                boolean open = (placed >> work & 1) == 0 && (needs[work] & ~placed) == 0;
                // What begins when another could be up already leaves a gap that the other one fills.
                if (!open || at >= until || at == from && work < last) {
                    continue;
                }
                start[work] = at;
                occupy(work, works.hands[work]);
                explore(depth + 1, placed | 1 << work, work, away + awayBy(work, at), key + keyOf(work, at));
                occupy(work, -works.hands[work]);
            }
        }

        /** No plan that goes on from here has less than the hope, as no work begins earlier than told here. */
        private void hope(int depth, int placed, int from, int away, long key) {
            hopeAway = away;
            hopeKey = key;
            soonest = END;
            firstUp = END;
            int row = depth * MAX_WORKS;
            for (int i = 0; i < works.size; i++) {
                int work = byNeed[i];
                if ((placed >> work & 1) != 0) {
                    early[row + work] = start[work];
                    continue;
                }
                int before = row == 0 ? 0 : early[row - MAX_WORKS + work];
                int at = earliest(work, row, Math.max(from, before));
                early[row + work] = at;
                hopeAway += awayBy(work, at);
                hopeKey += keyOf(work, at);
                soonest = Math.min(soonest, at);
                if ((needs[work] & ~placed) == 0) {
                    firstUp = Math.min(firstUp, at + works.ticks[work]);
                }
            }
        }

        /** All placed works have begun by then, so hands that are free once stay free. */
        private int earliest(int work, int row, int from) {
            int at = from;
            int all = needs[work];
            for (int of = 0; of < works.size && all >> of != 0; of++) {
                if ((all >> of & 1) != 0) {
                    at = Math.max(at, early[row + of] + works.ticks[of]);
                }
            }
            while (at < END && used[at] + works.hands[work] > hands) {
                at++;
            }
            return at;
        }

        /**
         * Whether the same works were placed before with less, and so that all that can follow here could
         * follow there: each is up there by its tick here, or by the first tick at which one can follow.
         */
        private boolean isOutdone(int placed, int away, long key) {
            if (!isLess(seenAway[placed], seenKey[placed], away, key)) {
                seenAway[placed] = away;
                seenKey[placed] = key;
                return false;
            }
            for (int work = 0; work < works.size; work++) {
                if ((placed >> work & 1) != 0) {
                    int seen = (int) (seenKey[placed] >> shiftOf(work)) & KEY_MASK;
                    if (seen > start[work] && seen + works.ticks[work] > soonest) {
                        return false;
                    }
                }
            }
            return true;
        }

        private void occupy(int work, int more) {
            int end = Math.min(start[work] + works.ticks[work], END);
            for (int at = start[work]; at < end; at++) {
                used[at] += more;
            }
        }

        private int awayBy(int work, int at) {
            return works.weight[work] * (at + works.ticks[work]);
        }

        private static long keyOf(int work, int at) {
            return (long) at << shiftOf(work);
        }

        private static int shiftOf(int work) {
            return (MAX_WORKS - 1 - work) * KEY_BITS;
        }

        private static boolean isLess(int away, long key, int otherAway, long otherKey) {
            return away < otherAway || away == otherAway && key < otherKey;
        }
    }

    /** The night: which works are up, which begin, and how. A work that is in neither set is down. */
    private static final class Night {
        private final Works works;
        private final int[] toGo = new int[MAX_WORKS];
        private boolean there;
        private int hands;
        private int clock;
        private int away;
        private int up;
        private int beginning;
        private int thinly;

        Night(Works its) {
            works = its;
        }

        void fall(int itsHands) {
            there = true;
            hands = itsHands;
            clock = 0;
            away = 0;
            up = 0;
            beginning = 0;
            thinly = 0;
            Arrays.fill(toGo, 0);
        }

        int stage(int work) {
            if ((up >> work & 1) != 0) {
                return 2;
            }
            return beginning >> work & 1;
        }

        int freeHands() {
            int free = hands;
            for (int work = 0; work < works.size; work++) {
                if ((beginning >> work & 1) != 0) {
                    free -= works.hands[work];
                }
            }
            return free;
        }

        boolean launch(int work, boolean thin) {
            int bit = 1 << work;
            if (((up | beginning) & bit) != 0 || thin && !works.canBeThin(work)) {
                return false;
            }
            int needs = works.needsOf(work, thin ? bit : 0);
            if ((needs & ~up) != 0 || works.hands[work] > freeHands()) {
                return false;
            }
            beginning |= bit;
            toGo[work] = works.ticks[work];
            if (thin) {
                thinly |= bit;
                away += works.cost[work];
            }
            return true;
        }

        int pass(int n) {
            for (int i = 0; i < n; i++) {
                passOne();
            }
            return clock;
        }

        private void passOne() {
            clock++;
            for (int work = 0; work < works.size; work++) {
                int bit = 1 << work;
                if ((up & bit) == 0) {
                    away += works.weight[work];
                }
                if ((beginning & bit) != 0) {
                    toGo[work]--;
                    if (toGo[work] == 0) {
                        beginning &= ~bit;
                        up |= bit;
                    }
                }
            }
        }

        boolean stumble(int work) {
            if ((beginning >> work & 1) == 0) {
                return false;
            }
            toGo[work] = works.ticks[work];
            return true;
        }

        int strike(int work) {
            int standing = up | beginning;
            if ((standing >> work & 1) == 0) {
                return 0;
            }
            int left = standing & ~(1 << work);
            for (int round = 0; round < works.size; round++) {
                int still = thoseThatStand(left);
                if (still == left) {
                    break;
                }
                left = still;
            }
            up &= left;
            beginning &= left;
            thinly &= left;
            int down = standing & ~left;
            stopThose(down);
            return down;
        }

        private int thoseThatStand(int left) {
            int still = 0;
            for (int work = 0; work < works.size; work++) {
                if ((left >> work & 1) != 0 && (works.needsOf(work, thinly) & ~left) == 0) {
                    still |= 1 << work;
                }
            }
            return still;
        }

        private void stopThose(int down) {
            for (int work = 0; work < works.size; work++) {
                if ((down >> work & 1) != 0) {
                    toGo[work] = 0;
                }
            }
        }
    }
}

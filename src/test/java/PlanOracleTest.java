import java.util.Arrays;
import java.util.Random;

/**
 * Promises 16 and 17 against plans found in other ways: for few short works every begin of every work is tried,
 * for eight works every order (by the Reference).
 */
public final class PlanOracleTest {
    private static final Check CHECK = new Check();
    private static final Random RANDOM = new Random(20261116);

    private int[] ticks;
    private int[] hands;
    private int[] weight;
    private boolean[][] needs;
    private int free;
    private int end;
    private int[] best;

    public static void main(String[] args) {
        for (int i = 0; i < 4000; i++) {
            new PlanOracleTest().everyBegin(i);
        }
        for (int i = 0; i < 250; i++) {
            everyOrder(i);
        }
        CHECK.end("PlanOracleTest");
    }

    private void everyBegin(int run) {
        int n = 1 + RANDOM.nextInt(run % 10 == 0 ? 5 : 4);
        free = 1 + RANDOM.nextInt(4);
        ticks = new int[n];
        hands = new int[n];
        weight = new int[n];
        needs = new boolean[n][n];
        DarkDesk desk = new DarkDesk();
        int longest = n == 5 ? 2 : 3;
        for (int i = 0; i < n; i++) {
            ticks[i] = 1 + RANDOM.nextInt(longest);
            hands[i] = 1 + RANDOM.nextInt(free);
            weight[i] = RANDOM.nextInt(run % 3 == 0 ? 2 : 6);
            desk.work(ticks[i], hands[i], weight[i], -1);
            end += ticks[i];
        }
        int[] names = shuffled(n);
        for (int i = 0; i < n; i++) {
            for (int j = 0; j < i; j++) {
                if (RANDOM.nextInt(4) == 0) {
                    needs[names[i]][names[j]] = true;
                    desk.need(names[i], names[j], RANDOM.nextBoolean());
                }
            }
        }
        best = new int[n + 1];
        best[0] = Integer.MAX_VALUE;
        tryBegins(0, new int[n]);
        CHECK.same("run " + run + ": plan", best[0], desk.plan(free, 0));
        for (int i = 0; i < n; i++) {
            CHECK.same("run " + run + ": begins(" + i + ")", best[i + 1], desk.begins(i));
        }
    }

    private static int[] shuffled(int n) {
        int[] names = new int[n];
        for (int i = 0; i < n; i++) {
            int j = RANDOM.nextInt(i + 1);
            names[i] = names[j];
            names[j] = i;
        }
        return names;
    }

    private void tryBegins(int work, int[] begin) {
        if (work == begin.length) {
            int[] mine = new int[work + 1];
            for (int i = 0; i < work; i++) {
                mine[0] += weight[i] * (begin[i] + ticks[i]);
                mine[i + 1] = begin[i];
            }
            if (Arrays.compare(mine, best) < 0) {
                best = mine;
            }
            return;
        }
        for (int at = 0; at <= end - ticks[work]; at++) {
            begin[work] = at;
            if (holds(work, begin)) {
                tryBegins(work + 1, begin);
            }
        }
    }

    /** Whether works 0 to this one go together: hands at each tick, and needs among them. */
    private boolean holds(int last, int[] begin) {
        for (int t = begin[last]; t < begin[last] + ticks[last]; t++) {
            int taken = 0;
            for (int i = 0; i <= last; i++) {
                taken += begin[i] <= t && t < begin[i] + ticks[i] ? hands[i] : 0;
            }
            if (taken > free) {
                return false;
            }
        }
        for (int i = 0; i < last; i++) {
            if (needs[last][i] && begin[last] < begin[i] + ticks[i] || needs[i][last] && begin[i] < begin[last] + ticks[last]) {
                return false;
            }
        }
        return true;
    }

    private static void everyOrder(int run) {
        DarkDesk desk = new DarkDesk();
        Reference reference = new Reference();
        int free = 1 + RANDOM.nextInt(8);
        int most = 1 + RANDOM.nextInt(Math.min(free, 6));
        int longest = 1 + RANDOM.nextInt(12);
        int kind = run % 5;
        for (int i = 0; i < 8; i++) {
            int t = 1 + RANDOM.nextInt(longest);
            int h = 1 + RANDOM.nextInt(most);
            int w = kind == 0 ? 0 : kind == 1 ? 7 : kind == 2 ? t * h : RANDOM.nextInt(kind == 3 ? 4 : 101);
            desk.work(t, h, w, i);
            reference.work(t, h, w, i);
        }
        int[] names = shuffled(8);
        int rare = 2 + RANDOM.nextInt(12);
        for (int i = 0; i < 8; i++) {
            for (int j = 0; j < i; j++) {
                if (RANDOM.nextInt(rare) == 0) {
                    boolean soft = RANDOM.nextBoolean();
                    desk.need(names[i], names[j], soft);
                    reference.need(names[i], names[j], soft);
                }
            }
        }
        int thin = RANDOM.nextInt(256);
        CHECK.same("eight works, run " + run + ": plan", reference.plan(free, thin), desk.plan(free, thin));
        for (int i = 0; i < 8; i++) {
            CHECK.same("eight works, run " + run + ": begins(" + i + ")", reference.begins(i), desk.begins(i));
        }
    }
}

/** Promises 16 and 17 and the third part of the Terms: each sentence that names a boundary has a test of its own. */
public final class PlanEdgesTest {
    private static final Check CHECK = new Check();

    public static void main(String[] args) {
        noWorks();
        handsFromOneToEight();
        handsTogetherAtMost();
        handsAtEachTick();
        handsOfOneThatGoesOn();
        upAtTheTickOfTheLastNeed();
        upThroughTheLongestLine();
        softNeedsOfThinOnes();
        othersThatCannotBeThin();
        othersThatAreNoWorks();
        awayIsWeightTimesUp();
        awayWithoutWeights();
        awayWithAllCosts();
        awayGreatest();
        severalByWorkZero();
        severalByWorkOne();
        severalByTheLast();
        severalWithNeeds();
        severalWithALateBegin();
        leastAwayAheadOfEarlyBegins();
        noneByARing();
        noneByARingThatThinOnesLeave();
        noneByHands();
        noneByHandsWithoutWeight();
        noneTakesThePlanAway();
        anotherPlanInItsPlace();
        refusedPlanLeavesThePlan();
        beginsWithoutAPlan();
        beginsOfTheLastWork();
        CHECK.end("PlanEdgesTest");
    }

    private static void due(String call, DarkDesk desk, int hands, int thin, int... awayAndBegins) {
        CHECK.same("16 " + call + ", plan", awayAndBegins[0], desk.plan(hands, thin));
        CHECK.same("16 " + call + ", count(5)", awayAndBegins[0] == -1 ? 0 : 1, desk.count(5));
        for (int i = 1; i < awayAndBegins.length; i++) {
            CHECK.same("17 " + call + ", begins(" + (i - 1) + ")", awayAndBegins[i], desk.begins(i - 1));
        }
    }

    private static DarkDesk like(int works, int ticks, int hands, int weight, int cost) {
        DarkDesk desk = new DarkDesk();
        for (int i = 0; i < works; i++) {
            desk.work(ticks, hands, weight, cost);
        }
        return desk;
    }

    // A desk without works: nothing is away, and no RING or work is in the way.
    private static void noWorks() {
        due("no works", new DarkDesk(), 1, 0, 0);
        due("no works, all hands, all bits", new DarkDesk(), 8, -1, 0);
    }

    // "with H hands (1 to 8)"
    private static void handsFromOneToEight() {
        for (int hands = -1; hands <= 10; hands++) {
            int h = hands;
            DarkDesk desk = like(8, 1, 1, 1, -1);
            if (hands < 1 || hands > 8) {
                CHECK.refuses("16 plan(" + h + ", 0)", IllegalArgumentException.class, () -> desk.plan(h, 0));
                CHECK.same("16 no plan by it", 0, desk.count(5));
                continue;
            }
            int away = 0;
            for (int i = 0; i < 8; i++) {
                away += i / hands + 1;
            }
            due("eight works, hands " + hands, desk, hands, 0, away);
            CHECK.same("17 begins(7), hands " + hands, 7 / hands, desk.begins(7));
        }
    }

    // "the works that begin just then, or go on, take H hands together at most"
    private static void handsTogetherAtMost() {
        DarkDesk desk = new DarkDesk();
        desk.work(2, 3, 1, -1);
        desk.work(2, 4, 1, -1);
        due("seven hands: both at once", desk, 7, 0, 4, 0, 0);
        due("six hands: one behind the other", desk, 6, 0, 6, 0, 2);
    }

    private static void handsAtEachTick() {
        DarkDesk desk = new DarkDesk();
        desk.work(1, 1, 50, -1);
        desk.work(3, 1, 50, -1);
        desk.work(2, 2, 1, -1);
        due("two hands are free behind the longer one", desk, 2, 0, 50 + 150 + 5, 0, 0, 3);
        due("a third hand is free behind the shorter one", desk, 3, 0, 50 + 150 + 3, 0, 0, 1);
    }

    private static void handsOfOneThatGoesOn() {
        DarkDesk desk = new DarkDesk();
        desk.work(12, 5, 100, -1);
        desk.work(1, 3, 0, -1);
        desk.work(11, 2, 0, -1);
        due("hands of seven: 2 beside 0, 1 behind it", desk, 7, 0, 1200, 0, 12, 0);
        due("hands of eight: 1 and then 2 beside 0", desk, 8, 0, 1200, 0, 0, 1);
    }

    // "a work begins when all that it needs are UP, at the earliest at the tick at which the last one is"
    private static void upAtTheTickOfTheLastNeed() {
        DarkDesk desk = new DarkDesk();
        desk.work(1, 1, 9, -1);
        desk.work(2, 1, 0, -1);
        desk.work(5, 1, 0, -1);
        desk.need(0, 1, false);
        due("one need", desk, 8, 0, 9 * 3, 2, 0, 0);
        desk.need(0, 2, false);
        due("two needs: the later one", desk, 8, 0, 9 * 6, 5, 0, 0);
        due("two needs, one hand", desk, 1, 0, 9 * 8, 7, 0, 2);
    }

    private static void upThroughTheLongestLine() {
        DarkDesk desk = like(8, 12, 1, 100, -1);
        for (int i = 7; i > 0; i--) {
            desk.need(i, i - 1, false);
        }
        due("a line of eight", desk, 8, 0, 1200 * 36, 0, 12, 24, 36, 48, 60, 72, 84);
    }

    // "(without SOFT ones, if it is THIN)"
    private static void softNeedsOfThinOnes() {
        DarkDesk desk = like(3, 2, 1, 1, 0);
        desk.need(2, 0, true);
        desk.need(2, 1, false);
        desk.need(1, 0, true);
        due("none is thin", desk, 8, 0, 2 + 4 + 6, 0, 2, 4);
        due("2 is thin", desk, 8, 4, 2 + 4 + 6, 0, 2, 4);
        due("1 is thin", desk, 8, 2, 2 + 2 + 4, 0, 0, 2);
        due("0 is thin, and needs none", desk, 8, 1, 2 + 4 + 6, 0, 2, 4);
        due("1 and 2 are thin", desk, 8, 6, 2 + 2 + 4, 0, 0, 2);
    }

    // "a set of works that are begun THIN (others than those that can be count for nothing)"
    private static void othersThatCannotBeThin() {
        DarkDesk desk = new DarkDesk();
        desk.work(1, 1, 1, -1);
        desk.work(1, 1, 1, -1);
        desk.need(0, 1, true);
        due("neither can be thin", desk, 2, 3, 3, 1, 0);
    }

    private static void othersThatAreNoWorks() {
        DarkDesk desk = new DarkDesk();
        desk.work(1, 1, 1, 1000);
        desk.work(1, 1, 1, 1000);
        desk.need(0, 1, true);
        for (int set : new int[] {4, 128, 256, 1 << 30, Integer.MIN_VALUE, ~3}) {
            due("no such works in " + set, desk, 2, set, 3, 1, 0);
        }
        due("work 0 and others", desk, 2, ~2, 1002, 0, 0);
        due("all bits", desk, 2, -1, 2002, 0, 0);
        due("all bits but the sign's", desk, 2, Integer.MAX_VALUE, 2002, 0, 0);
    }

    // "the sum of all WEIGHTS, each times the tick at which it is UP"
    private static void awayIsWeightTimesUp() {
        DarkDesk desk = new DarkDesk();
        desk.work(1, 6, 100, -1);
        due("one tick", desk, 6, 0, 100, 0);
        desk.work(12, 6, 1, -1);
        due("twelve ticks behind it", desk, 6, 0, 100 + 13, 0, 1);
    }

    private static void awayWithoutWeights() {
        due("eight without weights", like(8, 12, 6, 0, -1), 6, 0, 0, 0, 12, 24, 36, 48, 60, 72, 84);
        due("eight without weights, side by side", like(8, 12, 1, 0, -1), 8, 0, 0, 0, 0, 0, 0, 0, 0, 0, 0);
    }

    // "and all COSTS of the THIN ones": of those too that spare nothing by it.
    private static void awayWithAllCosts() {
        DarkDesk desk = new DarkDesk();
        desk.work(1, 1, 0, 0);
        desk.work(1, 1, 0, 1);
        desk.work(1, 1, 0, 1000);
        desk.work(1, 1, 0, -1);
        due("none is thin", desk, 8, 0, 0, 0, 0, 0, 0);
        due("a cost of 0", desk, 8, 1, 0, 0, 0, 0, 0);
        due("a cost of 1", desk, 8, 2, 1, 0, 0, 0, 0);
        due("a cost of 1000", desk, 8, 4, 1000, 0, 0, 0, 0);
        due("all that can", desk, 8, 15, 1001, 0, 0, 0, 0);
    }

    private static void awayGreatest() {
        due("all there is", like(8, 12, 6, 100, 1000), 8, 255, 1200 * 36 + 8000, 0, 12, 24, 36, 48, 60, 72, 84);
    }

    // "of several that whose work 0 begins earliest, .."
    private static void severalByWorkZero() {
        due("two alike", like(2, 5, 4, 7, -1), 7, 0, 35 + 70, 0, 5);
        DarkDesk desk = new DarkDesk();
        desk.work(12, 1, 12, -1);
        desk.work(1, 1, 1, -1);
        due("the long one first, as it is work 0", desk, 1, 0, 144 + 13, 0, 12);
        DarkDesk light = new DarkDesk();
        light.work(12, 1, 0, -1);
        light.work(1, 1, 0, -1);
        light.work(1, 1, 0, -1);
        due("weightless: work 0 at once", light, 1, 0, 0, 0, 12, 13);
    }

    // ".. then 1, .."
    private static void severalByWorkOne() {
        DarkDesk desk = new DarkDesk();
        desk.work(1, 1, 100, -1);
        desk.work(12, 1, 12, -1);
        desk.work(1, 1, 1, -1);
        due("0 is first, 1 goes ahead of 2", desk, 1, 0, 100 + 13 * 12 + 14, 0, 1, 13);
        DarkDesk turned = new DarkDesk();
        turned.work(1, 1, 100, -1);
        turned.work(1, 1, 1, -1);
        turned.work(12, 1, 12, -1);
        due("0 is first, 1 goes ahead of 2, turned", turned, 1, 0, 100 + 2 + 14 * 12, 0, 1, 2);
    }

    // ".. and so on"
    private static void severalByTheLast() {
        DarkDesk desk = new DarkDesk();
        for (int i = 0; i < 6; i++) {
            desk.work(1, 1, 100 - i, -1);
        }
        desk.work(2, 1, 2, -1);
        desk.work(1, 1, 1, -1);
        int away = 100 + 2 * 99 + 3 * 98 + 4 * 97 + 5 * 96 + 6 * 95;
        due("6 goes ahead of 7", desk, 1, 0, away + 2 * 8 + 9, 0, 1, 2, 3, 4, 5, 6, 8);
        due("eight alike, two hands", like(8, 3, 1, 1, -1), 2, 0, 60, 0, 0, 3, 3, 6, 6, 9, 9);
    }

    private static void severalWithNeeds() {
        DarkDesk desk = like(4, 1, 1, 0, -1);
        desk.need(0, 3, false);
        due("weightless: what 0 needs is first, then 0, 1 and 2", desk, 1, 0, 0, 1, 2, 3, 0);
        due("weightless, two hands: 1 beside what 0 needs, 2 beside 0", desk, 2, 0, 0, 1, 0, 1, 0);
    }

    /** Work 1 is up first or last, at the same AWAY: work 0 a tick earlier is worth 73 ticks of work 1. */
    private static void severalWithALateBegin() {
        DarkDesk desk = new DarkDesk();
        desk.work(1, 1, 0, -1);
        desk.work(1, 1, 1, -1);
        for (int i = 2; i < 8; i++) {
            desk.work(12, 1, i == 7 ? 73 : 0, -1);
            desk.need(i, i == 2 ? 0 : i - 1, false);
        }
        due("0 at 0 and 1 at 73, not 0 at 1 and 1 at 0", desk, 1, 0, 73 * 73 + 74, 0, 73, 1, 13, 25, 37, 49, 61);
    }

    // "The PLAN is that of the least AWAY", even if work 0 begins last by it.
    private static void leastAwayAheadOfEarlyBegins() {
        DarkDesk desk = new DarkDesk();
        desk.work(12, 1, 11, -1);
        desk.work(1, 1, 1, -1);
        due("one less of AWAY", desk, 1, 0, 1 + 13 * 11, 1, 0);
    }

    // "none, if there is a RING (with these THIN), .."
    private static void noneByARing() {
        DarkDesk desk = like(8, 1, 1, 1, 0);
        desk.need(6, 7, false);
        due("no ring yet", desk, 8, 0, 9, 0, 0, 0, 0, 0, 0, 1, 0);
        desk.need(7, 6, true);
        due("a ring of two among eight", desk, 8, 0, -1, -1, -1, -1, -1, -1, -1, -1, -1);
        due("a ring that 7 breaks", desk, 8, 128, 9, 0, 0, 0, 0, 0, 0, 1, 0);
    }

    private static void noneByARingThatThinOnesLeave() {
        DarkDesk desk = like(2, 1, 1, 1, -1);
        desk.need(0, 1, true);
        desk.need(1, 0, true);
        due("neither can be thin", desk, 8, 3, -1, -1, -1);
        DarkDesk hard = like(2, 1, 1, 1, 1);
        hard.need(0, 1, false);
        hard.need(1, 0, true);
        due("0's need is hard", hard, 8, 1, -1, -1, -1);
        due("1's need is soft", hard, 8, 2, 1 + 1 + 2, 1, 0);
    }

    // ".. or a work takes more than H hands"
    private static void noneByHands() {
        for (int hands = 1; hands <= 6; hands++) {
            DarkDesk desk = new DarkDesk();
            desk.work(1, 1, 1, -1);
            desk.work(1, hands, 1, -1);
            due("just the hands it takes", desk, hands, 0, 3, 0, 1);
            if (hands > 1) {
                due("one hand less than it takes", desk, hands - 1, 0, -1, -1, -1);
            }
        }
    }

    private static void noneByHandsWithoutWeight() {
        DarkDesk desk = new DarkDesk();
        desk.work(1, 6, 0, 0);
        due("no weight, too many hands", desk, 5, 0, -1, -1);
        due("no weight, too many hands, thin", desk, 5, 1, -1, -1);
        due("no weight, hands enough", desk, 6, 1, 0, 0);
    }

    // Promise 16: "NONE, and there is no PLAN, if there is none."
    private static void noneTakesThePlanAway() {
        DarkDesk desk = like(2, 1, 2, 1, -1);
        due("a plan", desk, 2, 0, 3, 0, 1);
        due("no plan with fewer hands", desk, 1, 0, -1, -1, -1);
        due("a plan again", desk, 4, 0, 2, 0, 0);
    }

    private static void anotherPlanInItsPlace() {
        DarkDesk desk = like(2, 3, 2, 1, -1);
        due("one behind the other", desk, 3, 0, 9, 0, 3);
        due("both at once", desk, 4, 0, 6, 0, 0);
        due("one behind the other again", desk, 2, 0, 9, 0, 3);
    }

    private static void refusedPlanLeavesThePlan() {
        DarkDesk desk = like(2, 3, 2, 1, -1);
        desk.plan(2, 0);
        CHECK.refuses("16 plan(0, 0)", IllegalArgumentException.class, () -> desk.plan(0, 0));
        CHECK.refuses("16 plan(9, 0)", IllegalArgumentException.class, () -> desk.plan(9, 0));
        CHECK.same("16 count(5) behind them", 1, desk.count(5));
        CHECK.same("17 begins(1) behind them", 3, desk.begins(1));
    }

    // Promise 17: "NONE without a PLAN."
    private static void beginsWithoutAPlan() {
        DarkDesk desk = like(1, 1, 1, 1, -1);
        CHECK.same("17 begins(0) ahead of a plan", -1, desk.begins(0));
        desk.plan(1, 0);
        CHECK.same("17 begins(0) by a plan", 0, desk.begins(0));
        desk.work(1, 1, 1, 1);
        CHECK.same("17 begins(0) behind a work", -1, desk.begins(0));
        CHECK.same("17 begins(1) behind a work", -1, desk.begins(1));
        desk.plan(1, 0);
        CHECK.same("17 begins(1) by a plan", 1, desk.begins(1));
        desk.need(0, 1, true);
        CHECK.same("17 begins(0) behind a need", -1, desk.begins(0));
        CHECK.same("17 begins(1) behind a need", -1, desk.begins(1));
    }

    private static void beginsOfTheLastWork() {
        DarkDesk desk = like(8, 12, 6, 1, -1);
        desk.plan(6, 0);
        CHECK.same("17 begins(7), the latest there is", 84, desk.begins(7));
        CHECK.refuses("17 begins(8)", IndexOutOfBoundsException.class, () -> desk.begins(8));
        CHECK.refuses("17 begins(-1)", IndexOutOfBoundsException.class, () -> desk.begins(-1));
    }
}

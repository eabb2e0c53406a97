/** Promises 16 and 17: the plan of the least AWAY, and when each work begins by it. */
public final class PlanTest {
    private static final Check CHECK = new Check();

    public static void main(String[] args) {
        noWorks();
        wrongHands();
        begins();
        heavyFirst();
        handsWaitForAHeavyWork();
        handsFreeJustThen();
        earlierWorkFirstOfSeveral();
        weightlessBeginEarliest();
        aTieThatCostsALaterWork();
        softNeedsAndThin();
        othersCountForNothing();
        noneByRing();
        noneByHands();
        greatest();
        oneLine();
        nightAndStoresLeaveThePlan();
        CHECK.end("PlanTest");
    }

    private static void due(String call, DarkDesk desk, int hands, int thin, int... awayAndBegins) {
        CHECK.same(call + ", plan", awayAndBegins[0], desk.plan(hands, thin));
        CHECK.same(call + ", count(5)", awayAndBegins[0] == -1 ? 0 : 1, desk.count(5));
        for (int i = 1; i < awayAndBegins.length; i++) {
            CHECK.same(call + ", begins(" + (i - 1) + ")", awayAndBegins[i], desk.begins(i - 1));
        }
    }

    private static void noWorks() {
        DarkDesk desk = new DarkDesk();
        due("no works", desk, 8, -1, 0);
        desk.work(1, 1, 1, 1);
        CHECK.same("a work takes the plan away", 0, desk.count(5));
        CHECK.same("begins without a plan", -1, desk.begins(0));
    }

    private static void wrongHands() {
        DarkDesk desk = new DarkDesk();
        desk.work(3, 1, 2, 4);
        desk.plan(1, 0);
        for (int hands : new int[] {0, 9, -1, Integer.MIN_VALUE, Integer.MAX_VALUE}) {
            CHECK.refuses("plan(" + hands + ", 0)", IllegalArgumentException.class, () -> desk.plan(hands, 0));
        }
        CHECK.same("a refused plan leaves the one before", 1, desk.count(5));
        CHECK.same("and its begins", 0, desk.begins(0));
        due("8 hands", desk, 8, 0, 6, 0);
    }

    private static void begins() {
        DarkDesk desk = new DarkDesk();
        CHECK.refuses("begins(0)", IndexOutOfBoundsException.class, () -> desk.begins(0));
        desk.work(1, 1, 1, 1);
        CHECK.same("begins(0) without a plan", -1, desk.begins(0));
        CHECK.refuses("begins(1)", IndexOutOfBoundsException.class, () -> desk.begins(1));
        CHECK.refuses("begins(-1)", IndexOutOfBoundsException.class, () -> desk.begins(-1));
        desk.plan(1, 0);
        CHECK.same("begins(0)", 0, desk.begins(0));
        desk.need(0, desk.work(1, 1, 1, 1), false);
        CHECK.same("begins(0) behind a need", -1, desk.begins(0));
    }

    private static void heavyFirst() {
        DarkDesk desk = new DarkDesk();
        desk.work(5, 1, 1, -1);
        desk.work(1, 2, 100, -1);
        due("heavy first", desk, 2, 0, 106, 1, 0);
        due("both at once", desk, 3, 0, 105, 0, 0);
    }

    private static void handsWaitForAHeavyWork() {
        DarkDesk desk = new DarkDesk();
        desk.work(1, 1, 1, -1);
        desk.work(1, 2, 50, -1);
        desk.work(10, 1, 1, -1);
        desk.need(1, 0, false);
        due("a hand that waits", desk, 2, 0, 113, 0, 1, 2);
        due("a third hand", desk, 3, 0, 111, 0, 1, 0);
    }

    private static void handsFreeJustThen() {
        DarkDesk desk = new DarkDesk();
        desk.work(2, 3, 9, -1);
        desk.work(4, 1, 9, -1);
        desk.work(1, 3, 1, -1);
        due("hands are free at the tick at which a work is up", desk, 4, 0, 18 + 36 + 3, 0, 0, 2);
    }

    private static void earlierWorkFirstOfSeveral() {
        DarkDesk desk = new DarkDesk();
        for (int i = 0; i < 4; i++) {
            desk.work(3, 1, 5, -1);
        }
        due("like works, one hand", desk, 1, 0, 5 * (3 + 6 + 9 + 12), 0, 3, 6, 9);
        due("like works, two hands", desk, 2, 0, 5 * (3 + 3 + 6 + 6), 0, 0, 3, 3);
    }

    private static void weightlessBeginEarliest() {
        DarkDesk desk = new DarkDesk();
        desk.work(12, 1, 0, -1);
        desk.work(1, 1, 0, -1);
        desk.work(1, 1, 0, -1);
        due("work 0 first, though it is long", desk, 1, 0, 0, 0, 12, 13);
        desk.need(0, 2, false);
        due("work 0 as early as it can", desk, 1, 0, 0, 1, 13, 0);
    }

    private static void aTieThatCostsALaterWork() {
        DarkDesk desk = new DarkDesk();
        desk.work(2, 1, 2, -1);
        desk.work(1, 1, 1, -1);
        due("7 either way", desk, 1, 0, 7, 0, 2);
        DarkDesk turned = new DarkDesk();
        turned.work(1, 1, 1, -1);
        turned.work(2, 1, 2, -1);
        due("7 either way, turned", turned, 1, 0, 7, 0, 1);
    }

    private static void softNeedsAndThin() {
        DarkDesk desk = new DarkDesk();
        desk.work(4, 1, 3, 6);
        desk.work(2, 1, 1, -1);
        desk.work(1, 1, 1, -1);
        desk.need(0, 1, true);
        desk.need(0, 2, false);
        due("thick: it waits for both", desk, 3, 0, 3 * 6 + 2 + 1, 2, 0, 0);
        due("thin: it waits for one", desk, 3, 1, 3 * 5 + 2 + 1 + 6, 1, 0, 0);
        desk.need(0, 1, false);
        due("thin, and the need is hard, too", desk, 3, 1, 3 * 6 + 2 + 1 + 6, 2, 0, 0);
    }

    private static void othersCountForNothing() {
        DarkDesk desk = new DarkDesk();
        desk.work(1, 1, 1, -1);
        desk.work(1, 1, 1, 7);
        desk.need(0, 1, true);
        due("work 0 cannot be thin", desk, 2, 1, 3, 1, 0);
        due("there are no such works", desk, 2, ~3, 3, 1, 0);
        due("all bits: work 1 alone", desk, 2, -1, 10, 1, 0);
    }

    private static void noneByRing() {
        DarkDesk desk = new DarkDesk();
        desk.work(1, 1, 1, 1);
        desk.work(1, 1, 1, 2);
        due("no ring yet", desk, 1, 0, 3, 0, 1);
        desk.need(0, 1, true);
        desk.need(1, 0, true);
        due("thin 1", desk, 1, 2, 5, 1, 0);
        due("a ring takes the plan away", desk, 1, 0, -1, -1, -1);
        due("thin 0", desk, 1, 1, 4, 0, 1);
    }

    private static void noneByHands() {
        DarkDesk desk = new DarkDesk();
        desk.work(2, 3, 1, -1);
        due("hands that suffice", desk, 3, 0, 2, 0);
        due("too few hands", desk, 2, 0, -1, -1);
        due("again", desk, 4, 0, 2, 0);
    }

    private static void greatest() {
        DarkDesk desk = new DarkDesk();
        for (int i = 0; i < 8; i++) {
            desk.work(12, 6, 100, 1000);
        }
        due("eight in a row", desk, 8, 255, 1200 * 36 + 8000, 0, 12, 24, 36, 48, 60, 72, 84);
        due("eight in a row, thick", desk, 6, 0, 1200 * 36, 0, 12, 24, 36, 48, 60, 72, 84);
    }

    private static void oneLine() {
        DarkDesk desk = new DarkDesk();
        for (int i = 0; i < 8; i++) {
            desk.work(12, 1, i == 0 ? 100 : 0, -1);
        }
        for (int i = 0; i < 7; i++) {
            desk.need(i, i + 1, i % 2 == 0);
        }
        due("each needs the next", desk, 8, -1, 9600, 84, 72, 60, 48, 36, 24, 12, 0);
    }

    private static void nightAndStoresLeaveThePlan() {
        DarkDesk desk = new DarkDesk();
        desk.work(2, 1, 1, 1);
        desk.plan(1, 0);
        desk.night(1);
        desk.begin(0, true);
        desk.tick(3);
        desk.blow(0);
        desk.store();
        desk.copy(0, 1, 1);
        CHECK.same("the plan stands", 1, desk.count(5));
        CHECK.same("begins(0)", 0, desk.begins(0));
        CHECK.same("a plan leaves the night", 2, desk.plan(1, 0));
        CHECK.same("the tick", 3, desk.now(0));
    }
}

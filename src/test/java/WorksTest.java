/** Promises 1 to 7: a new object, works, needs, what hangs on what, rings and the cheapest cut. */
public final class WorksTest {
    private static final Check CHECK = new Check();
    private static final Class<IllegalArgumentException> BAD = IllegalArgumentException.class;
    private static final Class<IndexOutOfBoundsException> OUT = IndexOutOfBoundsException.class;
    private static final Class<UnsupportedOperationException> FULL = UnsupportedOperationException.class;

    public static void main(String[] args) {
        newDesk();
        workNumbers();
        workLimits();
        workFull();
        needs();
        needRefusals();
        needFull();
        hangsAndSteps();
        longestWay();
        rings();
        thinThatCannotCountsForNothing();
        cutCheapest();
        cutTies();
        cutNone();
        CHECK.end("WorksTest");
    }

    private static DarkDesk desk(int works, int cost) {
        DarkDesk desk = new DarkDesk();
        for (int i = 0; i < works; i++) {
            desk.work(1, 1, 1, cost);
        }
        return desk;
    }

    private static void newDesk() {
        DarkDesk desk = new DarkDesk();
        for (int what = 0; what <= 6; what++) {
            CHECK.same("count(" + what + ") of a new desk", 0, desk.count(what));
        }
        CHECK.same("NONE", -1, DarkDesk.NONE);
        CHECK.same("rings(-1) of a new desk", 0, desk.rings(-1));
        CHECK.same("cut() of a new desk", 0, desk.cut());
        CHECK.same("together() of a new desk", true, desk.together());
        CHECK.refuses("hangs(0) of a new desk", OUT, () -> desk.hangs(0));
        CHECK.refuses("state(0) of a new desk", OUT, () -> desk.state(0));
        CHECK.refuses("begins(0) of a new desk", OUT, () -> desk.begins(0));
        CHECK.refuses("now(0) of a new desk", IllegalStateException.class, () -> desk.now(0));
    }

    private static void workNumbers() {
        DarkDesk desk = new DarkDesk();
        CHECK.same("least work", 0, desk.work(1, 1, 0, -1));
        CHECK.same("greatest work", 1, desk.work(12, 6, 100, 1000));
        CHECK.same("work of cost 0", 2, desk.work(5, 3, 7, 0));
        CHECK.same("count(0)", 3, desk.count(0));
    }

    private static void workLimits() {
        DarkDesk desk = new DarkDesk();
        int[][] wrong = {
            {0, 1, 1, 1}, {13, 1, 1, 1}, {-1, 1, 1, 1}, {1, 0, 1, 1}, {1, 7, 1, 1}, {1, 1, -1, 1}, {1, 1, 101, 1},
            {1, 1, 1, -2}, {1, 1, 1, 1001}, {Integer.MIN_VALUE, 1, 1, 1}, {1, 1, 1, Integer.MAX_VALUE},
        };
        for (int[] w : wrong) {
            CHECK.refuses("work" + java.util.Arrays.toString(w), BAD, () -> desk.work(w[0], w[1], w[2], w[3]));
        }
        CHECK.same("count(0) behind refusals", 0, desk.count(0));
    }

    private static void workFull() {
        DarkDesk desk = desk(8, 1);
        desk.plan(1, 0);
        desk.night(1);
        CHECK.refuses("a ninth work", FULL, () -> desk.work(1, 1, 1, 1));
        CHECK.refuses("a ninth work, wrong", BAD, () -> desk.work(0, 1, 1, 1));
        CHECK.same("count(0)", 8, desk.count(0));
        CHECK.same("a refused work leaves the plan", 1, desk.count(5));
        CHECK.same("a refused work leaves the night", 1, desk.count(6));
    }

    private static void needs() {
        DarkDesk desk = desk(3, 1);
        CHECK.same("first need", 1, desk.need(0, 1, false));
        CHECK.same("the same need again", 2, desk.need(0, 1, true));
        desk.plan(1, 0);
        desk.night(1);
        CHECK.same("third need", 3, desk.need(2, 0, true));
        CHECK.same("count(1)", 3, desk.count(1));
        CHECK.same("a need takes the plan away", 0, desk.count(5));
        CHECK.same("a need ends the night", 0, desk.count(6));
        desk.plan(1, 0);
        desk.night(1);
        desk.work(1, 1, 1, 1);
        CHECK.same("a work takes the plan away", 0, desk.count(5));
        CHECK.same("a work ends the night", 0, desk.count(6));
    }

    private static void needRefusals() {
        DarkDesk desk = desk(2, 1);
        desk.plan(1, 0);
        desk.night(1);
        CHECK.refuses("need(2, 0)", OUT, () -> desk.need(2, 0, false));
        CHECK.refuses("need(0, 2)", OUT, () -> desk.need(0, 2, false));
        CHECK.refuses("need(-1, -1)", OUT, () -> desk.need(-1, -1, false));
        CHECK.refuses("need(2, 2)", OUT, () -> desk.need(2, 2, true));
        CHECK.refuses("need(1, 1)", BAD, () -> desk.need(1, 1, true));
        CHECK.same("count(1)", 0, desk.count(1));
        CHECK.same("a refused need leaves the plan", 1, desk.count(5));
        CHECK.same("a refused need leaves the night", 1, desk.count(6));
    }

    private static void needFull() {
        DarkDesk desk = desk(8, 1);
        for (int i = 0; i < 40; i++) {
            CHECK.same("need " + i, i + 1, desk.need(i % 7, 7, i % 2 == 0));
        }
        CHECK.refuses("need 41", FULL, () -> desk.need(0, 1, false));
        CHECK.refuses("need 41 of itself", BAD, () -> desk.need(3, 3, false));
        CHECK.refuses("need 41 of none", OUT, () -> desk.need(3, 8, false));
        CHECK.same("count(1)", 40, desk.count(1));
        CHECK.same("need 41 is not there", 0, desk.hangs(0) & 2);
    }

    private static void hangsAndSteps() {
        DarkDesk desk = desk(5, 1);
        desk.need(0, 1, true);
        desk.need(1, 2, false);
        desk.need(2, 3, true);
        desk.need(0, 3, false);
        desk.need(3, 1, true);
        CHECK.same("hangs(0)", 0b01110, desk.hangs(0));
        CHECK.same("hangs(1)", 0b01110, desk.hangs(1));
        CHECK.same("hangs(2)", 0b01110, desk.hangs(2));
        CHECK.same("hangs(4)", 0, desk.hangs(4));
        CHECK.same("steps(0, 3)", 1, desk.steps(0, 3));
        CHECK.same("steps(0, 2)", 2, desk.steps(0, 2));
        CHECK.same("steps(1, 1)", 3, desk.steps(1, 1));
        CHECK.same("steps(0, 0)", -1, desk.steps(0, 0));
        CHECK.same("steps(1, 0)", -1, desk.steps(1, 0));
        CHECK.same("steps(4, 0)", -1, desk.steps(4, 0));
        CHECK.refuses("hangs(5)", OUT, () -> desk.hangs(5));
        CHECK.refuses("hangs(-1)", OUT, () -> desk.hangs(-1));
        CHECK.refuses("steps(5, 0)", OUT, () -> desk.steps(5, 0));
        CHECK.refuses("steps(0, -1)", OUT, () -> desk.steps(0, -1));
    }

    private static void longestWay() {
        DarkDesk desk = desk(8, 1);
        for (int i = 0; i < 8; i++) {
            desk.need(i, (i + 1) % 8, i % 2 == 0);
        }
        CHECK.same("steps(0, 7)", 7, desk.steps(0, 7));
        CHECK.same("steps(0, 0)", 8, desk.steps(0, 0));
        CHECK.same("steps(7, 6)", 7, desk.steps(7, 6));
        CHECK.same("hangs(0)", 255, desk.hangs(0));
        CHECK.same("rings(0)", 255, desk.rings(0));
        CHECK.same("rings(1)", 0, desk.rings(1));
        CHECK.same("rings(2): its need is not soft", 255, desk.rings(2));
    }

    private static void rings() {
        DarkDesk desk = desk(6, 1);
        desk.need(0, 1, true);
        desk.need(1, 0, false);
        desk.need(2, 0, false);
        desk.need(3, 4, false);
        desk.need(4, 3, true);
        desk.need(4, 3, false);
        CHECK.same("rings(0)", 0b011011, desk.rings(0));
        CHECK.same("rings(1)", 0b011000, desk.rings(1));
        CHECK.same("rings(2)", 0b011011, desk.rings(2));
        CHECK.same("rings(-1): one of the two needs is hard", 0b011000, desk.rings(-1));
    }

    private static void thinThatCannotCountsForNothing() {
        DarkDesk desk = new DarkDesk();
        desk.work(1, 1, 1, -1);
        desk.work(1, 1, 1, 0);
        desk.need(0, 1, true);
        desk.need(1, 0, true);
        CHECK.same("rings(1): work 0 cannot be thin", 3, desk.rings(1));
        CHECK.same("rings(2)", 0, desk.rings(2));
        CHECK.same("rings(4): there is no work 2", 3, desk.rings(4));
        CHECK.same("cut() of cost 0", 2, desk.cut());
    }

    private static void cutCheapest() {
        DarkDesk desk = new DarkDesk();
        desk.work(1, 1, 1, 10);
        desk.work(1, 1, 1, 4);
        desk.work(1, 1, 1, 5);
        desk.need(0, 1, true);
        desk.need(1, 0, true);
        desk.need(0, 2, true);
        desk.need(2, 0, true);
        CHECK.same("cut(): 4 and 5 are less than 10", 0b110, desk.cut());
        desk.work(1, 1, 1, 2);
        desk.need(0, 3, true);
        desk.need(3, 0, true);
        CHECK.same("cut(): 10 is less than 4, 5 and 2", 0b001, desk.cut());
    }

    private static void cutTies() {
        DarkDesk desk = new DarkDesk();
        desk.work(1, 1, 1, 3);
        desk.work(1, 1, 1, 2);
        desk.work(1, 1, 1, 1);
        desk.need(0, 1, true);
        desk.need(1, 0, true);
        desk.need(0, 2, true);
        desk.need(2, 0, true);
        CHECK.same("cut(): of 1 and of 6 the lower number", 1, desk.cut());
        DarkDesk free = desk(2, 0);
        CHECK.same("cut() without a ring", 0, free.cut());
        free.need(0, 1, true);
        free.need(1, 0, true);
        CHECK.same("cut() of free ones", 1, free.cut());
    }

    private static void cutNone() {
        DarkDesk desk = desk(2, 5);
        desk.need(0, 1, false);
        desk.need(1, 0, false);
        CHECK.same("cut() of a hard ring", -1, desk.cut());
        DarkDesk thick = desk(2, -1);
        thick.need(0, 1, true);
        thick.need(1, 0, true);
        CHECK.same("cut() of works that cannot be thin", -1, thick.cut());
    }
}

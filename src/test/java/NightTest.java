import java.util.NoSuchElementException;

/** Promises 18 to 25: the night, tick by tick, and the counts. */
public final class NightTest {
    private static final Check CHECK = new Check();
    private static final Class<IllegalArgumentException> BAD = IllegalArgumentException.class;
    private static final Class<IndexOutOfBoundsException> OUT = IndexOutOfBoundsException.class;
    private static final Class<IllegalStateException> NO_NIGHT = IllegalStateException.class;
    private static final Class<NoSuchElementException> NO_SUCH = NoSuchElementException.class;

    public static void main(String[] args) {
        withoutANight();
        orderOfExceptions();
        nightHands();
        aNewNight();
        beginByNeeds();
        beginByHands();
        beginThin();
        ticks();
        awayOfATick();
        fails();
        blowOne();
        blowThroughNeeds();
        blowLeavesThinOnes();
        blowFreesHands();
        lookAndNowEdges();
        counts();
        CHECK.end("NightTest");
    }

    /** Works 0, 1, 2 of 2, 1, 3 ticks; 1 needs 0, 2 needs 1 softly. */
    private static DarkDesk line() {
        DarkDesk desk = new DarkDesk();
        desk.work(2, 2, 3, 5);
        desk.work(1, 1, 10, -1);
        desk.work(3, 2, 100, 7);
        desk.need(1, 0, false);
        desk.need(2, 1, true);
        return desk;
    }

    private static DarkDesk lineUp() {
        DarkDesk desk = line();
        desk.night(4);
        desk.begin(0, false);
        desk.tick(2);
        desk.begin(1, false);
        desk.tick(1);
        desk.begin(2, false);
        desk.tick(3);
        return desk;
    }

    private static void look(DarkDesk desk, int work, int stage, int toGo, int thin) {
        CHECK.same("look(" + work + ", 0)", stage, desk.look(work, 0));
        CHECK.same("look(" + work + ", 1)", toGo, desk.look(work, 1));
        CHECK.same("look(" + work + ", 2)", thin, desk.look(work, 2));
    }

    private static void now(DarkDesk desk, int tick, int free, int away, int up) {
        CHECK.same("now(0)", tick, desk.now(0));
        CHECK.same("now(1)", free, desk.now(1));
        CHECK.same("now(2)", away, desk.now(2));
        CHECK.same("now(3)", up, desk.now(3));
    }

    private static void withoutANight() {
        DarkDesk desk = line();
        desk.plan(2, 0);
        CHECK.refuses("begin", NO_NIGHT, () -> desk.begin(0, false));
        CHECK.refuses("tick", NO_NIGHT, () -> desk.tick(0));
        CHECK.refuses("fail", NO_NIGHT, () -> desk.fail(0));
        CHECK.refuses("blow", NO_NIGHT, () -> desk.blow(0));
        CHECK.refuses("look", NO_NIGHT, () -> desk.look(0, 0));
        CHECK.refuses("now", NO_NIGHT, () -> desk.now(0));
        desk.night(1);
        CHECK.same("count(6)", 1, desk.count(6));
        desk.work(1, 1, 1, 1);
        CHECK.refuses("tick behind a work", NO_NIGHT, () -> desk.tick(0));
    }

    private static void orderOfExceptions() {
        DarkDesk desk = line();
        CHECK.refuses("begin(3) without a night", OUT, () -> desk.begin(3, true));
        CHECK.refuses("fail(3) without a night", OUT, () -> desk.fail(3));
        CHECK.refuses("blow(-1) without a night", OUT, () -> desk.blow(-1));
        CHECK.refuses("look(3, 9) without a night", OUT, () -> desk.look(3, 9));
        CHECK.refuses("look(0, 9) without a night", NO_NIGHT, () -> desk.look(0, 9));
        CHECK.refuses("tick(101) without a night", NO_NIGHT, () -> desk.tick(101));
        CHECK.refuses("now(9) without a night", NO_NIGHT, () -> desk.now(9));
        desk.night(1);
        CHECK.refuses("begin(3)", OUT, () -> desk.begin(3, true));
        CHECK.refuses("fail(-1)", OUT, () -> desk.fail(-1));
        CHECK.refuses("blow(3)", OUT, () -> desk.blow(3));
        CHECK.refuses("look(3, 9)", OUT, () -> desk.look(3, 9));
    }

    private static void nightHands() {
        DarkDesk desk = line();
        CHECK.refuses("night(0)", BAD, () -> desk.night(0));
        CHECK.refuses("night(9)", BAD, () -> desk.night(9));
        CHECK.same("a refused night is none", 0, desk.count(6));
        desk.night(1);
        CHECK.same("now(1)", 1, desk.now(1));
        desk.tick(5);
        CHECK.refuses("night(-1)", BAD, () -> desk.night(-1));
        CHECK.same("a refused night leaves the one before", 5, desk.now(0));
        desk.night(8);
        now(desk, 0, 8, 0, 0);
    }

    private static void aNewNight() {
        DarkDesk desk = lineUp();
        desk.blow(0);
        desk.begin(0, true);
        desk.tick(1);
        desk.night(4);
        now(desk, 0, 4, 0, 0);
        for (int work = 0; work < 3; work++) {
            look(desk, work, 0, 0, 0);
        }
    }

    private static void beginByNeeds() {
        DarkDesk desk = line();
        desk.night(8);
        CHECK.same("1 needs 0", false, desk.begin(1, false));
        CHECK.same("2 needs 1", false, desk.begin(2, false));
        now(desk, 0, 8, 0, 0);
        CHECK.same("0 needs none", true, desk.begin(0, false));
        CHECK.same("0 begins already", false, desk.begin(0, false));
        CHECK.same("0 begins already, thin", false, desk.begin(0, true));
        CHECK.same("0 is not up yet", false, desk.begin(1, false));
        desk.tick(1);
        CHECK.same("0 is not up yet either", false, desk.begin(1, false));
        desk.tick(1);
        CHECK.same("0 is up", false, desk.begin(0, false));
        CHECK.same("1 may begin", true, desk.begin(1, false));
        look(desk, 1, 1, 1, 0);
    }

    private static void beginByHands() {
        DarkDesk desk = line();
        desk.night(1);
        CHECK.same("one hand of two", false, desk.begin(0, false));
        desk.night(3);
        CHECK.same("two hands of three", true, desk.begin(0, false));
        CHECK.same("one hand is free", 1, desk.now(1));
        CHECK.same("one hand of two again", false, desk.begin(2, true));
        CHECK.same("what may not begin costs nothing", 0, desk.now(2));
        desk.tick(2);
        CHECK.same("three hands are free", 3, desk.now(1));
        CHECK.same("1 takes one", true, desk.begin(1, false));
        CHECK.same("2 takes the others", true, desk.begin(2, true));
        CHECK.same("none is free", 0, desk.now(1));
    }

    private static void beginThin() {
        DarkDesk desk = line();
        desk.night(4);
        CHECK.same("1 cannot be thin", false, desk.begin(1, true));
        CHECK.same("2 without what it needs softly", true, desk.begin(2, true));
        now(desk, 0, 2, 7, 0);
        look(desk, 2, 1, 3, 1);
        desk.tick(3);
        look(desk, 2, 2, 0, 1);
        CHECK.same("0 thin, though it needs none", true, desk.begin(0, true));
        now(desk, 3, 2, 7 + 3 * 113 + 5, 4);
        DarkDesk hard = line();
        hard.need(2, 1, false);
        hard.night(4);
        CHECK.same("2 needs 1 hard, too", false, hard.begin(2, true));
    }

    private static void ticks() {
        DarkDesk desk = line();
        desk.night(2);
        CHECK.same("tick(0)", 0, desk.tick(0));
        CHECK.same("tick(100)", 100, desk.tick(100));
        CHECK.same("tick(1)", 101, desk.tick(1));
        CHECK.refuses("tick(-1)", BAD, () -> desk.tick(-1));
        CHECK.refuses("tick(101)", BAD, () -> desk.tick(101));
        now(desk, 101, 2, 101 * 113, 0);
    }

    private static void awayOfATick() {
        DarkDesk desk = line();
        desk.night(4);
        desk.begin(0, false);
        desk.tick(1);
        CHECK.same("all are away", 113, desk.now(2));
        look(desk, 0, 1, 1, 0);
        desk.tick(1);
        CHECK.same("all are away in the tick that brings 0 up", 226, desk.now(2));
        look(desk, 0, 2, 0, 0);
        desk.tick(1);
        CHECK.same("two are away", 336, desk.now(2));
        now(desk, 3, 4, 336, 1);
    }

    private static void fails() {
        DarkDesk desk = line();
        desk.night(4);
        CHECK.same("it is down", false, desk.fail(2));
        desk.begin(2, true);
        desk.tick(2);
        look(desk, 2, 1, 1, 1);
        CHECK.same("it fails", true, desk.fail(2));
        look(desk, 2, 1, 3, 1);
        CHECK.same("its hands are not free", 2, desk.now(1));
        CHECK.same("it fails at once again", true, desk.fail(2));
        desk.tick(3);
        look(desk, 2, 2, 0, 1);
        CHECK.same("it is up", false, desk.fail(2));
        CHECK.same("a failure costs nothing by itself", 7 + 5 * 113, desk.now(2));
    }

    private static void blowOne() {
        DarkDesk desk = lineUp();
        CHECK.same("all are up", 7, desk.now(3));
        int away = desk.now(2);
        CHECK.same("2 alone", 4, desk.blow(2));
        CHECK.same("it was down", 0, desk.blow(2));
        now(desk, 6, 4, away, 3);
        look(desk, 2, 0, 0, 0);
        CHECK.same("it may begin again", true, desk.begin(2, false));
    }

    private static void blowThroughNeeds() {
        DarkDesk desk = lineUp();
        CHECK.same("all hang on 0", 7, desk.blow(0));
        CHECK.same("none is up", 0, desk.now(3));
        DarkDesk middle = lineUp();
        CHECK.same("1 and what hangs on it", 6, middle.blow(1));
        CHECK.same("0 stays up", 1, middle.now(3));
        DarkDesk first = line();
        first.night(4);
        first.begin(0, false);
        first.tick(2);
        first.begin(1, false);
        CHECK.same("1 begins and goes down, too", 3, first.blow(0));
        look(first, 1, 0, 0, 0);
    }

    private static void blowLeavesThinOnes() {
        DarkDesk desk = lineUp();
        desk.blow(2);
        desk.begin(2, true);
        CHECK.same("2 is thin and stays", 3, desk.blow(0));
        look(desk, 2, 1, 3, 1);
        desk.tick(3);
        CHECK.same("2 is up", 4, desk.now(3));
        CHECK.same("2 goes down", 4, desk.blow(2));
        look(desk, 2, 0, 0, 0);
        DarkDesk again = lineUp();
        again.blow(2);
        again.begin(2, true);
        again.blow(2);
        again.begin(2, false);
        CHECK.same("2 is thick again and hangs on 0", 7, again.blow(0));
    }

    private static void blowFreesHands() {
        DarkDesk desk = line();
        desk.night(4);
        desk.begin(0, true);
        desk.begin(2, true);
        CHECK.same("no hand is free", 0, desk.now(1));
        desk.tick(1);
        CHECK.same("0 goes down while it begins", 1, desk.blow(0));
        now(desk, 1, 2, 5 + 7 + 113, 0);
        look(desk, 0, 0, 0, 0);
        CHECK.same("it begins anew", true, desk.begin(0, false));
        look(desk, 0, 1, 2, 0);
    }

    private static void lookAndNowEdges() {
        DarkDesk desk = line();
        desk.night(4);
        for (int what : new int[] {-1, 3, Integer.MIN_VALUE, Integer.MAX_VALUE}) {
            CHECK.refuses("look(0, " + what + ")", NO_SUCH, () -> desk.look(0, what));
        }
        for (int what : new int[] {-1, 4, Integer.MIN_VALUE, Integer.MAX_VALUE}) {
            CHECK.refuses("now(" + what + ")", NO_SUCH, () -> desk.now(what));
        }
    }

    private static void counts() {
        DarkDesk desk = line();
        desk.store();
        desk.store();
        desk.letter(0, 1, 1, 2);
        desk.letter(1, 1, 0, 2);
        desk.letter(1, 1, 0, 3);
        for (int i = 0; i < 5; i++) {
            desk.change(1, i);
        }
        desk.night(1);
        int[] due = {3, 2, 2, 3, 5, 0, 1};
        for (int what = 0; what < due.length; what++) {
            CHECK.same("count(" + what + ")", due[what], desk.count(what));
        }
        CHECK.same("a plan", 1, desk.plan(8, 0) >= 0 ? desk.count(5) : 0);
        CHECK.same("count(7)", -1, desk.count(7));
        CHECK.same("count(-1)", -1, desk.count(-1));
    }
}

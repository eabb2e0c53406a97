/** Promises 18 to 25 and the fourth part of the Terms: each sentence that names a boundary has a test of its own. */
public final class NightEdgesTest {
    private static final Check CHECK = new Check();

    public static void main(String[] args) {
        nightOfSoManyHands();
        allDownAtTickZero();
        nightInPlaceOfAnother();
        nightWithoutWorks();
        beginOnlyWhatIsDown();
        beginOnlyWithNeedsUp();
        beginOnlyWithHandsFree();
        beginThinOnlyWhatCan();
        beginThinWithoutSoftNeeds();
        beginThinCosts();
        beginThinThoughAllIsUp();
        beginNotThinWithSoftNeedsDown();
        beginSeveralThin();
        falseBeginsChangeNothing();
        ticksFromZeroToHundred();
        tickZeroChangesNothing();
        manyTicksAreSingleOnes();
        weightsOfAllThatAreNotUp();
        upWithNoneToGo();
        upFreesHands();
        upStaysUp();
        failsWhileItBegins();
        failsNotWhenUpOrDown();
        failKeepsThinAndHands();
        blowOfOneThatIsDown();
        blowOfOneThatBegins();
        blowOfOneThatIsUp();
        blowAgainAndAgain();
        blowByNeedsAsBegun();
        blowOfARing();
        blowLeavesOthers();
        blowLeavesWhatWasThinAllAlong();
        blowAndBeginAgain();
        lookAtEachStage();
        nowOfAllUp();
        countOfNothingElse();
        allTheCallsOfAnObject();
        CHECK.end("NightEdgesTest");
    }

    private static void look(String when, DarkDesk desk, int work, int stage, int toGo, int thin) {
        CHECK.same("23 look(" + work + ", 0) " + when, stage, desk.look(work, 0));
        CHECK.same("23 look(" + work + ", 1) " + when, toGo, desk.look(work, 1));
        CHECK.same("23 look(" + work + ", 2) " + when, thin, desk.look(work, 2));
    }

    private static void now(String when, DarkDesk desk, int tick, int free, int away, int up) {
        CHECK.same("24 now(0) " + when, tick, desk.now(0));
        CHECK.same("24 now(1) " + when, free, desk.now(1));
        CHECK.same("24 now(2) " + when, away, desk.now(2));
        CHECK.same("24 now(3) " + when, up, desk.now(3));
    }

    private static DarkDesk night(int works, int ticks, int hands, int weight, int cost) {
        DarkDesk desk = new DarkDesk();
        for (int i = 0; i < works; i++) {
            desk.work(ticks, hands, weight, cost);
        }
        desk.night(8);
        return desk;
    }

    // Promise 18: "IllegalArgumentException: H is none." ("H hands (1 to 8)")
    private static void nightOfSoManyHands() {
        for (int hands = -1; hands <= 10; hands++) {
            int h = hands;
            DarkDesk desk = new DarkDesk();
            if (hands < 1 || hands > 8) {
                CHECK.refuses("18 night(" + h + ")", IllegalArgumentException.class, () -> desk.night(h));
                CHECK.same("18 no night by it", 0, desk.count(6));
                continue;
            }
            desk.night(hands);
            CHECK.same("18 count(6)", 1, desk.count(6));
            now("of a night with " + hands, desk, 0, hands, 0, 0);
        }
    }

    // "all works are DOWN at tick 0"
    private static void allDownAtTickZero() {
        DarkDesk desk = night(8, 12, 6, 100, 1000);
        now("at first", desk, 0, 8, 0, 0);
        for (int work = 0; work < 8; work++) {
            look("at first", desk, work, 0, 0, 0);
        }
    }

    // Promise 18: "A NIGHT begins (in place of one that there was)."
    private static void nightInPlaceOfAnother() {
        DarkDesk desk = Desks.busy();
        look("in the first night", desk, 0, 2, 0, 0);
        look("in the first night", desk, 2, 1, 2, 1);
        desk.night(3);
        now("in the second night", desk, 0, 3, 0, 0);
        for (int work = 0; work < 3; work++) {
            look("in the second night", desk, work, 0, 0, 0);
        }
        CHECK.same("19 work 1 needs 0, which is down again", false, desk.begin(1, false));
        CHECK.same("19 work 0 may be begun again", true, desk.begin(0, false));
    }

    private static void nightWithoutWorks() {
        DarkDesk desk = new DarkDesk();
        desk.night(1);
        CHECK.same("20 tick(100) without works", 100, desk.tick(100));
        now("without works", desk, 100, 1, 0, 0);
        CHECK.refuses("22 blow(0) without works", IndexOutOfBoundsException.class, () -> desk.blow(0));
    }

    // "A work that is DOWN may be begun": one that BEGINS or is UP may not.
    private static void beginOnlyWhatIsDown() {
        DarkDesk desk = night(1, 2, 1, 1, 5);
        CHECK.same("19 it is down", true, desk.begin(0, false));
        CHECK.same("19 it begins", false, desk.begin(0, false));
        CHECK.same("19 it begins, thin", false, desk.begin(0, true));
        desk.tick(1);
        CHECK.same("19 it begins still", false, desk.begin(0, false));
        look("as it goes on", desk, 0, 1, 1, 0);
        desk.tick(1);
        CHECK.same("19 it is up", false, desk.begin(0, false));
        CHECK.same("19 it is up, thin", false, desk.begin(0, true));
        now("with nothing added", desk, 2, 8, 2, 1);
    }

    // "if all that it needs so are UP": one that BEGINS is not UP, and one of two is not all.
    private static void beginOnlyWithNeedsUp() {
        DarkDesk desk = new DarkDesk();
        desk.work(2, 1, 0, -1);
        desk.work(3, 1, 0, -1);
        desk.work(1, 1, 0, -1);
        desk.need(2, 0, false);
        desk.need(2, 1, true);
        desk.night(8);
        CHECK.same("19 both are down", false, desk.begin(2, false));
        desk.begin(0, false);
        desk.begin(1, false);
        CHECK.same("19 both begin", false, desk.begin(2, false));
        desk.tick(2);
        CHECK.same("19 one is up", false, desk.begin(2, false));
        desk.tick(1);
        CHECK.same("19 both are up", true, desk.begin(2, false));
    }

    // "and its HANDS are free"
    private static void beginOnlyWithHandsFree() {
        DarkDesk desk = new DarkDesk();
        desk.work(1, 5, 0, -1);
        desk.work(2, 3, 0, -1);
        desk.work(1, 1, 0, -1);
        desk.night(8);
        CHECK.same("19 five of eight", true, desk.begin(0, false));
        CHECK.same("19 three of three", true, desk.begin(1, false));
        CHECK.same("24 none is free", 0, desk.now(1));
        CHECK.same("19 one of none", false, desk.begin(2, false));
        desk.night(7);
        desk.begin(0, false);
        CHECK.same("19 three of two", false, desk.begin(1, false));
        CHECK.same("19 one of two", true, desk.begin(2, false));
        CHECK.same("24 one is free", 1, desk.now(1));
    }

    // Promise 19: "(or THIN, and it cannot be)"
    private static void beginThinOnlyWhatCan() {
        DarkDesk desk = new DarkDesk();
        desk.work(1, 1, 0, -1);
        desk.work(1, 1, 0, 0);
        desk.night(2);
        CHECK.same("19 cost NONE", false, desk.begin(0, true));
        look("behind it", desk, 0, 0, 0, 0);
        CHECK.same("19 cost 0", true, desk.begin(1, true));
        look("behind it", desk, 1, 1, 1, 1);
        CHECK.same("19 cost NONE, not thin", true, desk.begin(0, false));
        look("behind it", desk, 0, 1, 1, 0);
    }

    // "THIN or not, if all that it needs so are UP"
    private static void beginThinWithoutSoftNeeds() {
        DarkDesk desk = night(3, 1, 1, 0, 1);
        desk.need(2, 0, true);
        desk.need(2, 1, false);
        desk.night(3);
        CHECK.same("19 thin, the hard one is down", false, desk.begin(2, true));
        desk.begin(1, false);
        CHECK.same("19 thin, the hard one begins", false, desk.begin(2, true));
        desk.tick(1);
        CHECK.same("19 not thin, the soft one is down", false, desk.begin(2, false));
        CHECK.same("19 thin, the hard one is up", true, desk.begin(2, true));
    }

    // "If it is begun THIN its COST is added to what is AWAY."
    private static void beginThinCosts() {
        DarkDesk desk = new DarkDesk();
        desk.work(1, 1, 0, 1000);
        desk.work(1, 1, 0, 1000);
        desk.work(1, 1, 0, 0);
        desk.night(8);
        desk.begin(0, false);
        CHECK.same("24 not thin: no cost", 0, desk.now(2));
        desk.begin(1, true);
        CHECK.same("24 thin: its cost", 1000, desk.now(2));
        desk.begin(2, true);
        CHECK.same("24 thin: a cost of 0", 1000, desk.now(2));
        desk.tick(5);
        CHECK.same("24 once alone", 1000, desk.now(2));
        desk.blow(1);
        CHECK.same("24 a blow gives nothing back", 1000, desk.now(2));
        desk.begin(1, true);
        CHECK.same("24 thin again: its cost again", 2000, desk.now(2));
    }

    private static void beginThinThoughAllIsUp() {
        DarkDesk desk = night(2, 1, 1, 0, 9);
        desk.need(1, 0, true);
        desk.night(2);
        desk.begin(0, false);
        desk.tick(1);
        CHECK.same("19 thin, though what it needs is up", true, desk.begin(1, true));
        CHECK.same("24 its cost", 9, desk.now(2));
        CHECK.same("22 it was begun thin, so it stays", 1, desk.blow(0));
    }

    private static void beginNotThinWithSoftNeedsDown() {
        for (int work = 0; work < 8; work++) {
            DarkDesk desk = night(8, 1, 1, 0, 1);
            desk.need(work, (work + 1) % 8, true);
            desk.night(8);
            CHECK.same("19 not thin, work " + work, false, desk.begin(work, false));
            CHECK.same("19 thin, work " + work, true, desk.begin(work, true));
        }
    }

    private static void beginSeveralThin() {
        DarkDesk desk = night(8, 2, 1, 0, 1);
        for (int work = 0; work < 8; work++) {
            desk.begin(work, work % 3 != 1);
        }
        for (int work = 0; work < 8; work++) {
            look("of several thin ones", desk, work, 1, 2, work % 3 != 1 ? 1 : 0);
        }
        CHECK.same("24 a cost for each thin one", 5, desk.now(2));
    }

    // Promise 19: "false, and nothing happens"
    private static void falseBeginsChangeNothing() {
        DarkDesk desk = Desks.busy();
        String before = Snapshot.of(desk);
        CHECK.same("19 up", false, desk.begin(0, false));
        CHECK.same("19 up, thin", false, desk.begin(0, true));
        CHECK.same("19 thin, and cannot", false, desk.begin(1, true));
        CHECK.same("19 begins", false, desk.begin(2, false));
        CHECK.same("19 begins, thin", false, desk.begin(2, true));
        CHECK.same("19 nothing happens", before, Snapshot.of(desk));
        DarkDesk few = Desks.quiet();
        few.night(1);
        String fewBefore = Snapshot.of(few);
        CHECK.same("19 too few hands", false, few.begin(0, false));
        CHECK.same("19 too few hands, thin", false, few.begin(2, true));
        CHECK.same("19 needs are down", false, few.begin(1, false));
        CHECK.same("19 nothing happens either", fewBefore, Snapshot.of(few));
    }

    // Promise 20: "So many ticks: the tick. IllegalArgumentException: not 0 to 100."
    private static void ticksFromZeroToHundred() {
        DarkDesk desk = night(1, 1, 1, 1, -1);
        CHECK.same("20 tick(0) at first", 0, desk.tick(0));
        CHECK.same("20 tick(1)", 1, desk.tick(1));
        CHECK.same("20 tick(100)", 101, desk.tick(100));
        CHECK.same("20 tick(99)", 200, desk.tick(99));
        CHECK.refuses("20 tick(-1)", IllegalArgumentException.class, () -> desk.tick(-1));
        CHECK.refuses("20 tick(101)", IllegalArgumentException.class, () -> desk.tick(101));
        CHECK.same("20 tick(0) behind them", 200, desk.tick(0));
        now("behind them", desk, 200, 8, 200, 0);
    }

    private static void tickZeroChangesNothing() {
        DarkDesk desk = Desks.busy();
        String before = Snapshot.of(desk);
        CHECK.same("20 tick(0)", 3, desk.tick(0));
        CHECK.same("20 nothing happens", before, Snapshot.of(desk));
    }

    private static void manyTicksAreSingleOnes() {
        DarkDesk many = Desks.busy();
        DarkDesk single = Desks.busy();
        many.tick(7);
        for (int i = 0; i < 7; i++) {
            single.tick(1);
        }
        CHECK.same("20 seven at once", Snapshot.of(single), Snapshot.of(many));
    }

    // "the WEIGHTS of all works that are not UP are added to what is AWAY; then .."
    private static void weightsOfAllThatAreNotUp() {
        DarkDesk desk = new DarkDesk();
        desk.work(2, 1, 1, -1);
        desk.work(1, 1, 10, -1);
        desk.work(1, 1, 100, -1);
        desk.night(2);
        desk.begin(0, false);
        desk.begin(1, false);
        desk.tick(1);
        CHECK.same("24 down, or begins, or up by this tick", 111, desk.now(2));
        desk.tick(1);
        CHECK.same("24 without the one that is up", 111 + 101, desk.now(2));
        desk.tick(1);
        CHECK.same("24 without both that are up", 111 + 101 + 100, desk.now(2));
        desk.begin(2, false);
        desk.tick(1);
        CHECK.same("24 the last one", 412, desk.now(2));
        desk.tick(100);
        CHECK.same("24 all are up", 412, desk.now(2));
    }

    // ".. each that BEGINS has one to go less; with none it is UP"
    private static void upWithNoneToGo() {
        DarkDesk desk = night(2, 12, 1, 0, -1);
        desk.begin(0, false);
        for (int toGo = 12; toGo > 0; toGo--) {
            look("with so many to go", desk, 0, 1, toGo, 0);
            look("beside it", desk, 1, 0, 0, 0);
            desk.tick(1);
        }
        look("with none to go", desk, 0, 2, 0, 0);
        look("beside it", desk, 1, 0, 0, 0);
        CHECK.same("24 up", 1, desk.now(3));
    }

    // "its HANDS are free"
    private static void upFreesHands() {
        DarkDesk desk = night(2, 1, 6, 0, -1);
        desk.begin(0, false);
        CHECK.same("24 two are free", 2, desk.now(1));
        CHECK.same("19 not beside it", false, desk.begin(1, false));
        desk.tick(1);
        CHECK.same("24 all are free", 8, desk.now(1));
        CHECK.same("19 behind it", true, desk.begin(1, false));
    }

    private static void upStaysUp() {
        DarkDesk desk = night(1, 12, 1, 100, -1);
        desk.begin(0, false);
        desk.tick(100);
        now("long behind it", desk, 100, 8, 1200, 1);
        look("long behind it", desk, 0, 2, 0, 0);
    }

    // "One that FAILS while it BEGINS has all its TICKS to go again."
    private static void failsWhileItBegins() {
        DarkDesk desk = night(1, 12, 1, 1, -1);
        desk.begin(0, false);
        CHECK.same("21 at once", true, desk.fail(0));
        look("behind a failure at once", desk, 0, 1, 12, 0);
        desk.tick(11);
        look("a tick ahead of its end", desk, 0, 1, 1, 0);
        CHECK.same("21 a tick ahead of its end", true, desk.fail(0));
        look("behind a failure", desk, 0, 1, 12, 0);
        desk.tick(11);
        look("a tick ahead of its end again", desk, 0, 1, 1, 0);
        desk.tick(1);
        look("at its end", desk, 0, 2, 0, 0);
        now("at its end", desk, 23, 8, 23, 1);
    }

    // Promise 21: "false if it does not BEGIN."
    private static void failsNotWhenUpOrDown() {
        DarkDesk desk = Desks.busy();
        String before = Snapshot.of(desk);
        CHECK.same("21 it is up", false, desk.fail(0));
        CHECK.same("21 it is down", false, desk.fail(1));
        CHECK.same("21 nothing happens", before, Snapshot.of(desk));
    }

    private static void failKeepsThinAndHands() {
        DarkDesk desk = Desks.busy();
        int free = desk.now(1);
        int away = desk.now(2);
        CHECK.same("21 it begins, thin", true, desk.fail(2));
        look("behind a failure", desk, 2, 1, 3, 1);
        now("behind a failure", desk, 3, free, away, 1);
    }

    // Promise 22: "(0, and nothing happens, if it was DOWN)"
    private static void blowOfOneThatIsDown() {
        DarkDesk desk = Desks.busy();
        String before = Snapshot.of(desk);
        CHECK.same("22 it is down", 0, desk.blow(1));
        CHECK.same("22 nothing happens", before, Snapshot.of(desk));
        DarkDesk chain = night(2, 1, 1, 0, 0);
        chain.need(1, 0, true);
        chain.night(2);
        chain.begin(1, true);
        CHECK.same("22 it is down, and a thin one needs it softly", 0, chain.blow(0));
        look("behind it", chain, 1, 1, 1, 1);
    }

    // "A BLOW to a work that is UP or BEGINS: it is DOWN"; "HANDS of those that are DOWN are free."
    private static void blowOfOneThatBegins() {
        DarkDesk desk = Desks.busy();
        CHECK.same("24 hands ahead of it", 3, desk.now(1));
        int away = desk.now(2);
        CHECK.same("22 it begins", 4, desk.blow(2));
        look("behind it", desk, 2, 0, 0, 0);
        now("behind it", desk, 3, 5, away, 1);
    }

    private static void blowOfOneThatIsUp() {
        DarkDesk desk = Desks.busy();
        int away = desk.now(2);
        CHECK.same("22 it is up", 1, desk.blow(0));
        look("behind it", desk, 0, 0, 0, 0);
        now("behind it", desk, 3, 3, away, 0);
        desk.tick(1);
        CHECK.same("24 its weight counts again", away + 113, desk.now(2));
    }

    // "each other one that is UP or BEGINS and needs .. one that is DOWN, again and again, is DOWN, too"
    private static void blowAgainAndAgain() {
        CHECK.same("22 a line of eight, all up", 255, line(8).blow(0));
        CHECK.same("22 a line of eight, the last begins", 255, line(7).blow(0));
        CHECK.same("22 a line of eight, from the middle", 0b11110000, line(8).blow(4));
        CHECK.same("22 a line of eight, the last alone", 0b10000000, line(8).blow(7));
        CHECK.same("22 a line of three up, the fourth begins", 0b1110, line(3).blow(1));
        DarkDesk desk = line(8);
        desk.blow(3);
        CHECK.same("24 up behind it", 0b111, desk.now(3));
    }

    /** Each of eight works needs the one ahead; so many are up, and the next one begins. */
    private static DarkDesk line(int up) {
        DarkDesk desk = night(8, 1, 1, 1, -1);
        for (int i = 1; i < 8; i++) {
            desk.need(i, i - 1, i % 2 == 0);
        }
        desk.night(1);
        for (int i = 0; i < up; i++) {
            desk.begin(i, false);
            desk.tick(1);
        }
        if (up < 8) {
            desk.begin(up, false);
        }
        return desk;
    }

    // "(as it was begun: SOFT ones not, if THIN)"
    private static void blowByNeedsAsBegun() {
        for (int kind = 0; kind < 4; kind++) {
            boolean soft = kind >= 2;
            boolean thin = kind % 2 == 1;
            int due = soft && thin ? 1 : 3;
            String how = (soft ? "a soft need, " : "a hard need, ") + (thin ? "thin" : "not thin");
            DarkDesk begins = pair(soft, thin);
            CHECK.same("22 " + how + ", it begins", due, begins.blow(0));
            DarkDesk up = pair(soft, thin);
            up.tick(5);
            CHECK.same("22 " + how + ", it is up", due, up.blow(0));
        }
    }

    private static DarkDesk pair(boolean soft, boolean thin) {
        DarkDesk desk = night(2, 2, 1, 1, 1);
        desk.need(1, 0, soft);
        desk.night(2);
        desk.begin(0, false);
        desk.tick(2);
        desk.begin(1, thin);
        return desk;
    }

    private static void blowOfARing() {
        for (int struck = 0; struck < 2; struck++) {
            DarkDesk desk = night(2, 1, 1, 1, 1);
            desk.need(0, 1, true);
            desk.need(1, 0, true);
            desk.night(2);
            desk.begin(0, true);
            desk.tick(1);
            desk.begin(1, false);
            desk.tick(1);
            CHECK.same("24 both are up", 3, desk.now(3));
            CHECK.same("22 " + struck + " in a ring that 0 broke", struck == 0 ? 3 : 2, desk.blow(struck));
            CHECK.same("24 up behind it", struck == 0 ? 0 : 1, desk.now(3));
        }
    }

    private static void blowLeavesOthers() {
        DarkDesk desk = night(3, 2, 2, 1, 1);
        desk.need(1, 0, false);
        desk.night(8);
        desk.begin(0, false);
        desk.begin(2, true);
        desk.tick(1);
        CHECK.same("22 what needs another one stays", 1, desk.blow(0));
        look("beside it", desk, 2, 1, 1, 1);
        look("struck", desk, 0, 0, 0, 0);
        CHECK.same("24 its hands are not free", 6, desk.now(1));
        DarkDesk up = night(3, 1, 1, 1, 1);
        up.begin(0, false);
        up.begin(1, true);
        up.begin(2, false);
        up.tick(1);
        CHECK.same("22 the last alone", 4, up.blow(2));
        look("not thin, beside a blow", up, 0, 2, 0, 0);
        look("thin, beside a blow", up, 1, 2, 0, 1);
    }

    private static void blowLeavesWhatWasThinAllAlong() {
        DarkDesk desk = night(3, 1, 1, 1, 1);
        desk.need(1, 0, true);
        desk.need(1, 2, true);
        desk.night(3);
        desk.begin(2, false);
        desk.begin(1, true);
        desk.tick(1);
        CHECK.same("22 1 needs 0, which was never up, only softly", 4, desk.blow(2));
        CHECK.same("24 1 stays up", 2, desk.now(3));
    }

    private static void blowAndBeginAgain() {
        DarkDesk desk = pair(true, true);
        desk.tick(2);
        CHECK.same("22 1 goes down", 2, desk.blow(1));
        look("behind it", desk, 1, 0, 0, 0);
        CHECK.same("22 it is down already", 0, desk.blow(1));
        CHECK.same("19 it begins again, not thin", true, desk.begin(1, false));
        look("begun again", desk, 1, 1, 2, 0);
        CHECK.same("22 so it hangs on 0 now", 3, desk.blow(0));
    }

    // Promise 23: "0 DOWN, 1 it BEGINS, 2 UP; 1 ticks to go (0 if it does not BEGIN), 2 1 if it was begun THIN and is
    // not DOWN, else 0."
    private static void lookAtEachStage() {
        DarkDesk desk = night(8, 3, 1, 0, 4);
        desk.begin(7, true);
        look("it begins, thin", desk, 7, 1, 3, 1);
        desk.tick(3);
        look("it is up, thin", desk, 7, 2, 0, 1);
        desk.blow(7);
        look("it is down", desk, 7, 0, 0, 0);
        desk.begin(7, false);
        look("it begins, not thin", desk, 7, 1, 3, 0);
        desk.tick(3);
        look("it is up, not thin", desk, 7, 2, 0, 0);
        look("the first one", desk, 0, 0, 0, 0);
    }

    // Promise 24: "3 works that are UP, as bits".
    private static void nowOfAllUp() {
        DarkDesk desk = night(8, 12, 1, 100, -1);
        for (int work = 0; work < 8; work++) {
            CHECK.same("19 eight at once", true, desk.begin(work, false));
        }
        now("as all begin", desk, 0, 0, 0, 0);
        desk.tick(12);
        now("with all up", desk, 12, 8, 9600, 255);
    }

    // Promise 25: "NONE for another what."
    private static void countOfNothingElse() {
        DarkDesk desk = Desks.full();
        int[] due = {8, 40, 6, 30, 80, 1, 1};
        for (int what = 0; what < due.length; what++) {
            CHECK.same("25 count(" + what + ") of a full desk", due[what], desk.count(what));
        }
        for (int what : new int[] {-1, 7, 32, Integer.MIN_VALUE, Integer.MAX_VALUE}) {
            CHECK.same("25 count(" + what + ")", -1, desk.count(what));
            CHECK.same("25 count(" + what + ") of a new desk", -1, new DarkDesk().count(what));
        }
    }

    // "An object is used for at most 512 calls": with the heaviest works nothing wraps round by then.
    private static void allTheCallsOfAnObject() {
        DarkDesk desk = night(8, 12, 6, 100, 1000);
        int ticks = 512 - 9 - 3;
        for (int i = 1; i <= ticks; i++) {
            CHECK.same("20 tick(100)", 100 * i, desk.tick(100));
        }
        CHECK.same("24 away behind all of them", 800 * 100 * ticks, desk.now(2));
        CHECK.same("19 a work may still be begun", true, desk.begin(7, true));
        CHECK.same("24 away by the last call", 800 * 100 * ticks + 1000, desk.now(2));
    }
}

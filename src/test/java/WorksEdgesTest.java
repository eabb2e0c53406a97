/** Promises 1 to 7 and the first part of the Terms: each sentence that names a boundary has a test of its own. */
public final class WorksEdgesTest {
    private static final Check CHECK = new Check();

    public static void main(String[] args) {
        newDeskIsEmpty();
        newDeskIsNewBesideOthers();
        eightWorksNumberedFromZero();
        ticksFromOneToTwelve();
        handsFromOneToSix();
        weightFromZeroToHundred();
        costFromZeroToThousandOrNone();
        fortyNeeds();
        needsToldTwice();
        softAndHardOfTheSamePair();
        hardOnesOfAThinWork();
        softForThinOnesAlone();
        hangsOnNothing();
        hangsThroughSoftNeeds();
        hangsOnItselfOnlyInARing();
        hangsToTheEndOfTheLongestLine();
        stepsLeastOfSeveralWays();
        stepsToItself();
        stepsNone();
        stepsThroughSoftNeeds();
        ringsSmallestAndGreatest();
        ringsAreNotWhatHangsOnThem();
        ringsWithoutSoftNeedsOfThinOnes();
        ringsSetOutsideTheWorks();
        ringsOfThoseThatCannotBeThin();
        cutWithoutARing();
        cutOfTheLeastSum();
        cutOfTheLeastBits();
        cutOfThoseThatCanAlone();
        cutOfTheGreatestCosts();
        cutNoneByOneHardRing();
        tellingEndsPlanAndNight();
        CHECK.end("WorksEdgesTest");
    }

    // Promise 1: "No works, no STORES; no PLAN, no NIGHT."
    private static void newDeskIsEmpty() {
        DarkDesk desk = new DarkDesk();
        for (int what = 0; what <= 6; what++) {
            CHECK.same("1 count(" + what + ")", 0, desk.count(what));
        }
        CHECK.same("1 rings(0)", 0, desk.rings(0));
        CHECK.same("1 cut()", 0, desk.cut());
        CHECK.refuses("1 hangs(0)", IndexOutOfBoundsException.class, () -> desk.hangs(0));
        CHECK.refuses("1 begins(0)", IndexOutOfBoundsException.class, () -> desk.begins(0));
        CHECK.refuses("1 state(0)", IndexOutOfBoundsException.class, () -> desk.state(0));
        CHECK.refuses("1 torn(0, 0)", IndexOutOfBoundsException.class, () -> desk.torn(0, 0, false));
        CHECK.refuses("1 tick(0)", IllegalStateException.class, () -> desk.tick(0));
    }

    private static void newDeskIsNewBesideOthers() {
        DarkDesk full = Desks.full();
        DarkDesk desk = new DarkDesk();
        CHECK.same("1 count(0) beside a full desk", 0, desk.count(0));
        CHECK.same("1 work beside a full desk", 0, desk.work(1, 1, 1, 1));
        CHECK.same("1 hangs(0) beside a full desk", 0, desk.hangs(0));
        CHECK.same("1 store beside a full desk", 0, desk.store());
        CHECK.same("1 copy beside a full desk", 0, desk.copy(0, 1, 1));
        CHECK.same("1 the full desk stays full", 8, full.count(0));
    }

    // "WORKS (at most 8, numbered from 0 on)"
    private static void eightWorksNumberedFromZero() {
        DarkDesk desk = new DarkDesk();
        for (int i = 0; i < 8; i++) {
            CHECK.same("2 work " + i, i, desk.work(1, 1, 1, 1));
            CHECK.same("2 count(0)", i + 1, desk.count(0));
        }
        CHECK.refuses("2 a ninth work", UnsupportedOperationException.class, () -> desk.work(1, 1, 1, 1));
        CHECK.same("2 count(0) behind it", 8, desk.count(0));
        CHECK.same("2 hangs(7)", 0, desk.hangs(7));
    }

    // "TICKS (1 to 12) that it takes to begin"
    private static void ticksFromOneToTwelve() {
        for (int ticks = -1; ticks <= 14; ticks++) {
            int its = ticks;
            DarkDesk desk = new DarkDesk();
            if (ticks < 1 || ticks > 12) {
                CHECK.refuses("2 ticks " + ticks, IllegalArgumentException.class, () -> desk.work(its, 1, 1, 1));
                continue;
            }
            CHECK.same("2 ticks " + ticks, 0, desk.work(ticks, 1, 1, 1));
            CHECK.same("2 plan of ticks " + ticks, ticks, desk.plan(1, 0));
            desk.night(1);
            desk.begin(0, false);
            CHECK.same("2 ticks to go", ticks, desk.look(0, 1));
            desk.tick(ticks - 1);
            CHECK.same("2 not up a tick ahead of " + ticks, 1, desk.look(0, 0));
            desk.tick(1);
            CHECK.same("2 up behind " + ticks, 2, desk.look(0, 0));
        }
    }

    // "HANDS (1 to 6) that this takes"
    private static void handsFromOneToSix() {
        for (int hands = -1; hands <= 8; hands++) {
            int its = hands;
            DarkDesk desk = new DarkDesk();
            if (hands < 1 || hands > 6) {
                CHECK.refuses("2 hands " + hands, IllegalArgumentException.class, () -> desk.work(1, its, 1, 1));
                continue;
            }
            CHECK.same("2 hands " + hands, 0, desk.work(1, hands, 1, 1));
            desk.night(hands);
            CHECK.same("2 hands " + hands + " of so many", true, desk.begin(0, false));
            CHECK.same("2 none is free", 0, desk.now(1));
            if (hands > 1) {
                desk.night(hands - 1);
                CHECK.same("2 hands " + hands + " of one less", false, desk.begin(0, false));
            }
        }
    }

    // "WEIGHT (0 to 100)"
    private static void weightFromZeroToHundred() {
        for (int weight : new int[] {-1, 0, 1, 99, 100, 101}) {
            DarkDesk desk = new DarkDesk();
            if (weight < 0 || weight > 100) {
                CHECK.refuses("2 weight " + weight, IllegalArgumentException.class, () -> desk.work(1, 1, weight, 1));
                continue;
            }
            CHECK.same("2 weight " + weight, 0, desk.work(3, 1, weight, 1));
            CHECK.same("2 plan of weight " + weight, 3 * weight, desk.plan(1, 0));
            desk.night(1);
            desk.tick(2);
            CHECK.same("2 away of weight " + weight, 2 * weight, desk.now(2));
        }
    }

    // "what it COSTS to begin it THIN (0 to 1000; NONE: it cannot)"
    private static void costFromZeroToThousandOrNone() {
        for (int cost : new int[] {-2, -1, 0, 1, 999, 1000, 1001}) {
            DarkDesk desk = new DarkDesk();
            if (cost < -1 || cost > 1000) {
                CHECK.refuses("2 cost " + cost, IllegalArgumentException.class, () -> desk.work(1, 1, 1, cost));
                continue;
            }
            boolean can = cost != DarkDesk.NONE;
            CHECK.same("2 cost " + cost, 0, desk.work(1, 1, 0, cost));
            CHECK.same("2 plan of cost " + cost, can ? cost : 0, desk.plan(1, 1));
            desk.night(1);
            CHECK.same("2 begun thin at cost " + cost, can, desk.begin(0, true));
            CHECK.same("2 away by cost " + cost, can ? cost : 0, desk.now(2));
            CHECK.same("2 thin at cost " + cost, can ? 1 : 0, desk.look(0, 2));
        }
    }

    // "NEEDS (at most 40)"; "A NEED: how many there are."
    private static void fortyNeeds() {
        DarkDesk desk = Desks.works(8, 1);
        for (int i = 0; i < 39; i++) {
            CHECK.same("3 need " + (i + 1), i + 1, desk.need(0, 1 + i % 6, false));
        }
        CHECK.same("3 hangs(0) behind 39", 0b1111110, desk.hangs(0));
        CHECK.same("3 need 40 counts", 40, desk.need(0, 7, false));
        CHECK.same("3 hangs(0) behind 40", 0b11111110, desk.hangs(0));
        CHECK.refuses("3 need 41", UnsupportedOperationException.class, () -> desk.need(1, 2, false));
        CHECK.same("3 hangs(1): need 41 is none", 0, desk.hangs(1));
        CHECK.same("3 count(1)", 40, desk.count(1));
    }

    private static void needsToldTwice() {
        DarkDesk desk = Desks.works(2, 1);
        CHECK.same("3 a need", 1, desk.need(1, 0, true));
        CHECK.same("3 the same need again", 2, desk.need(1, 0, true));
        CHECK.same("3 the other way round", 3, desk.need(0, 1, true));
        CHECK.same("3 count(1)", 3, desk.count(1));
    }

    // "a work needs another one to begin; SOFT ones not, if it is begun THIN": a hard one beside it still counts.
    private static void softAndHardOfTheSamePair() {
        for (int turn = 0; turn < 2; turn++) {
            DarkDesk desk = Desks.works(2, 1);
            desk.need(1, 0, turn == 0);
            desk.need(1, 0, turn == 1);
            desk.night(2);
            CHECK.same("3 thin with a hard need told " + (turn == 0 ? "last" : "first"), false, desk.begin(1, true));
            CHECK.same("3 plan of it", 3 + 1, desk.plan(2, 2));
            CHECK.same("3 begins(1) of it", 1, desk.begins(1));
        }
        DarkDesk soft = Desks.works(2, 1);
        soft.need(1, 0, true);
        soft.need(1, 0, true);
        soft.night(2);
        CHECK.same("3 not thin with soft needs alone", false, soft.begin(1, false));
        CHECK.same("3 thin with soft needs alone", true, soft.begin(1, true));
    }

    private static void hardOnesOfAThinWork() {
        DarkDesk desk = Desks.works(4, 0);
        desk.need(3, 0, false);
        desk.need(3, 1, true);
        desk.need(3, 2, false);
        desk.night(8);
        desk.begin(2, false);
        desk.tick(1);
        CHECK.same("3 thin with the last of two hard needs up", false, desk.begin(3, true));
        desk.night(8);
        desk.begin(0, false);
        desk.tick(1);
        CHECK.same("3 thin with the first of two hard needs up", false, desk.begin(3, true));
        desk.begin(2, false);
        desk.tick(1);
        CHECK.same("3 thin with both hard needs up", true, desk.begin(3, true));
    }

    private static void softForThinOnesAlone() {
        DarkDesk desk = Desks.works(3, 1);
        desk.need(0, 1, true);
        desk.need(2, 0, true);
        desk.night(3);
        CHECK.same("3 work 0 thin", true, desk.begin(0, true));
        desk.tick(1);
        desk.blow(0);
        CHECK.same("3 2's soft need of 0 stays, though 0 was thin", false, desk.begin(2, false));
    }

    // Promise 4: "The works that a work needs through some steps (SOFT NEEDS too), as bits (itself, if it is in a RING)."
    private static void hangsOnNothing() {
        DarkDesk desk = Desks.works(2, 1);
        CHECK.same("4 hangs(0) without needs", 0, desk.hangs(0));
        desk.need(1, 0, false);
        CHECK.same("4 hangs(0): it is needed, and needs none", 0, desk.hangs(0));
        CHECK.same("4 hangs(1)", 1, desk.hangs(1));
    }

    private static void hangsThroughSoftNeeds() {
        DarkDesk desk = Desks.works(4, 0);
        desk.need(3, 0, true);
        desk.need(0, 1, true);
        desk.need(1, 2, true);
        CHECK.same("4 hangs(0)", 0b0110, desk.hangs(0));
        CHECK.same("4 hangs(3)", 0b0111, desk.hangs(3));
    }

    private static void hangsOnItselfOnlyInARing() {
        DarkDesk desk = Desks.works(4, 0);
        desk.need(0, 1, false);
        desk.need(1, 2, true);
        desk.need(2, 1, false);
        CHECK.same("4 hangs(0): it needs a ring, and is in none", 0b0110, desk.hangs(0));
        CHECK.same("4 hangs(1): it is in a ring", 0b0110, desk.hangs(1));
        CHECK.same("4 hangs(2): it is in a ring", 0b0110, desk.hangs(2));
        desk.need(2, 3, false);
        CHECK.same("4 hangs(3): a ring needs it", 0, desk.hangs(3));
        CHECK.same("4 hangs(1): and what the ring needs", 0b1110, desk.hangs(1));
    }

    private static void hangsToTheEndOfTheLongestLine() {
        DarkDesk desk = Desks.works(8, 0);
        for (int i = 7; i > 0; i--) {
            desk.need(i, i - 1, false);
        }
        CHECK.same("4 hangs(7)", 0b1111111, desk.hangs(7));
        DarkDesk turned = Desks.works(8, 0);
        for (int i = 0; i < 7; i++) {
            turned.need(i, i + 1, false);
        }
        CHECK.same("4 hangs(0)", 0b11111110, turned.hangs(0));
        turned.need(7, 0, false);
        CHECK.same("4 hangs(0) in a ring of all", 255, turned.hangs(0));
        CHECK.same("4 hangs(7) in a ring of all", 255, turned.hangs(7));
    }

    // Promise 5: "The least number of steps through which a work needs another one (or itself); NONE if it does not."
    private static void stepsLeastOfSeveralWays() {
        DarkDesk desk = Desks.works(8, 0);
        for (int i = 0; i < 7; i++) {
            desk.need(i, i + 1, false);
        }
        CHECK.same("5 steps(0, 1)", 1, desk.steps(0, 1));
        CHECK.same("5 steps(0, 7), the longest way", 7, desk.steps(0, 7));
        desk.need(1, 6, false);
        CHECK.same("5 steps(0, 7) by a shorter way", 3, desk.steps(0, 7));
        desk.need(0, 7, false);
        CHECK.same("5 steps(0, 7) at once", 1, desk.steps(0, 7));
    }

    private static void stepsToItself() {
        DarkDesk desk = Desks.works(8, 0);
        CHECK.same("5 steps(0, 0) without a ring", -1, desk.steps(0, 0));
        for (int i = 0; i < 8; i++) {
            desk.need(i, (i + 1) % 8, false);
        }
        CHECK.same("5 steps(0, 0) in a ring of eight", 8, desk.steps(0, 0));
        CHECK.same("5 steps(7, 7) in a ring of eight", 8, desk.steps(7, 7));
        desk.need(1, 0, false);
        CHECK.same("5 steps(0, 0) in a ring of two", 2, desk.steps(0, 0));
    }

    private static void stepsNone() {
        DarkDesk desk = Desks.works(3, 0);
        desk.need(0, 1, false);
        CHECK.same("5 steps(1, 0): the need goes the other way", -1, desk.steps(1, 0));
        CHECK.same("5 steps(0, 2): none needs it", -1, desk.steps(0, 2));
        desk.need(1, 0, false);
        CHECK.same("5 steps(0, 2) from a ring that goes on for ever", -1, desk.steps(0, 2));
    }

    private static void stepsThroughSoftNeeds() {
        DarkDesk desk = Desks.works(4, 0);
        desk.need(3, 0, true);
        desk.need(0, 1, true);
        desk.need(1, 2, true);
        CHECK.same("5 steps(0, 2)", 2, desk.steps(0, 2));
        CHECK.same("5 steps(3, 2)", 3, desk.steps(3, 2));
    }

    // "A RING: a work that needs itself so." Promise 6: "The works that are in a RING with a set THIN, as bits."
    private static void ringsSmallestAndGreatest() {
        DarkDesk two = Desks.works(8, 0);
        two.need(7, 6, false);
        CHECK.same("6 rings(0) ahead of it", 0, two.rings(0));
        two.need(6, 7, false);
        CHECK.same("6 rings(0) of two", 0b11000000, two.rings(0));
        DarkDesk eight = Desks.works(8, 0);
        for (int i = 0; i < 7; i++) {
            eight.need(i, i + 1, false);
        }
        CHECK.same("6 rings(0) of a line", 0, eight.rings(0));
        eight.need(7, 0, false);
        CHECK.same("6 rings(0) of eight", 255, eight.rings(0));
    }

    private static void ringsAreNotWhatHangsOnThem() {
        DarkDesk desk = Desks.works(7, 0);
        desk.need(0, 1, false);
        desk.need(1, 2, false);
        desk.need(2, 1, false);
        desk.need(2, 3, false);
        desk.need(3, 4, false);
        desk.need(4, 5, false);
        desk.need(5, 4, false);
        CHECK.same("6 rings(0): two rings, one ahead of, one between, one beside them", 0b0110110, desk.rings(0));
    }

    // "With a set of works that are begun THIN their SOFT NEEDS count for nothing."
    private static void ringsWithoutSoftNeedsOfThinOnes() {
        DarkDesk desk = Desks.works(3, 0);
        desk.need(0, 1, true);
        desk.need(1, 2, false);
        desk.need(2, 0, true);
        CHECK.same("6 rings(0)", 7, desk.rings(0));
        CHECK.same("6 rings(1): 0's need is soft", 0, desk.rings(1));
        CHECK.same("6 rings(2): 1's need is hard", 7, desk.rings(2));
        CHECK.same("6 rings(4): 2's need is soft", 0, desk.rings(4));
        CHECK.same("6 rings(7)", 0, desk.rings(7));
        desk.need(2, 0, false);
        CHECK.same("6 rings(4): 2's need is hard, too", 7, desk.rings(4));
    }

    private static void ringsSetOutsideTheWorks() {
        DarkDesk desk = Desks.works(2, 0);
        desk.need(0, 1, true);
        desk.need(1, 0, true);
        for (int set : new int[] {4, 128, 256, 1 << 30, Integer.MIN_VALUE, ~3}) {
            CHECK.same("6 rings(" + set + "): there are no such works", 3, desk.rings(set));
        }
        CHECK.same("6 rings(-1)", 0, desk.rings(-1));
        CHECK.same("6 rings of all ints' bits but the first", 0, desk.rings(-2));
        CHECK.same("6 rings of the least int and work 1", 0, desk.rings(Integer.MIN_VALUE | 2));
    }

    private static void ringsOfThoseThatCannotBeThin() {
        DarkDesk desk = new DarkDesk();
        desk.work(1, 1, 1, -1);
        desk.work(1, 1, 1, -1);
        desk.work(1, 1, 1, 0);
        desk.need(0, 1, true);
        desk.need(1, 0, true);
        desk.need(2, 0, true);
        desk.need(0, 2, true);
        CHECK.same("6 rings(3): neither can be thin", 7, desk.rings(3));
        CHECK.same("6 rings(7): 2 can", 3, desk.rings(7));
    }

    // Promise 7: "Of all sets of works that can be begun THIN with which there is no RING that of the least sum of COSTS,
    // of several that of the least bits as a number; NONE if there is none."
    private static void cutWithoutARing() {
        CHECK.same("7 cut() without works", 0, new DarkDesk().cut());
        CHECK.same("7 cut() without needs, all free", 0, Desks.works(8, 0).cut());
        DarkDesk thick = Desks.works(2, -1);
        thick.need(0, 1, false);
        CHECK.same("7 cut() without a ring, none can be thin", 0, thick.cut());
    }

    private static void cutOfTheLeastSum() {
        DarkDesk desk = new DarkDesk();
        desk.work(1, 1, 1, 1000);
        desk.work(1, 1, 1, 500);
        desk.work(1, 1, 1, 499);
        ringOf(desk, 0, 1);
        ringOf(desk, 0, 2);
        CHECK.same("7 cut(): 999 is less than 1000", 0b110, desk.cut());
        DarkDesk other = new DarkDesk();
        other.work(1, 1, 1, 1000);
        other.work(1, 1, 1, 501);
        other.work(1, 1, 1, 500);
        ringOf(other, 0, 1);
        ringOf(other, 0, 2);
        CHECK.same("7 cut(): 1000 is less than 1001", 0b001, other.cut());
    }

    private static void ringOf(DarkDesk desk, int one, int other) {
        desk.need(one, other, true);
        desk.need(other, one, true);
    }

    private static void cutOfTheLeastBits() {
        DarkDesk desk = new DarkDesk();
        desk.work(1, 1, 1, 500);
        desk.work(1, 1, 1, 500);
        desk.work(1, 1, 1, 1000);
        ringOf(desk, 2, 0);
        ringOf(desk, 2, 1);
        CHECK.same("7 cut(): 3 is a lesser number than 4, though more works", 0b011, desk.cut());
        DarkDesk pair = Desks.works(8, 3);
        ringOf(pair, 7, 6);
        CHECK.same("7 cut() of two alike", 0b01000000, pair.cut());
        DarkDesk free = Desks.works(8, 0);
        ringOf(free, 7, 6);
        CHECK.same("7 cut() of two that are free: no more than it takes", 0b01000000, free.cut());
    }

    private static void cutOfThoseThatCanAlone() {
        DarkDesk desk = new DarkDesk();
        desk.work(1, 1, 1, -1);
        desk.work(1, 1, 1, 1000);
        ringOf(desk, 0, 1);
        CHECK.same("7 cut(): 0 cannot be thin", 0b10, desk.cut());
        DarkDesk hard = Desks.works(2, 0);
        hard.need(0, 1, false);
        hard.need(1, 0, true);
        CHECK.same("7 cut(): 0's need is hard", 0b10, hard.cut());
    }

    private static void cutOfTheGreatestCosts() {
        DarkDesk desk = Desks.works(6, 1000);
        for (int one = 0; one < 6; one++) {
            for (int other = 0; other < one; other++) {
                ringOf(desk, one, other);
            }
        }
        CHECK.same("7 cut(): all but one, at 5000", 0b011111, desk.cut());
        DarkDesk pairs = Desks.works(8, 1000);
        for (int i = 0; i < 8; i += 2) {
            ringOf(pairs, i, i + 1);
        }
        CHECK.same("7 cut() of four pairs", 0b01010101, pairs.cut());
    }

    private static void cutNoneByOneHardRing() {
        DarkDesk desk = Desks.works(8, 0);
        ringOf(desk, 0, 1);
        CHECK.same("7 cut() ahead of it", 1, desk.cut());
        desk.need(6, 7, false);
        desk.need(7, 6, false);
        CHECK.same("7 cut() with one ring that none breaks", -1, desk.cut());
        DarkDesk thick = Desks.works(2, -1);
        ringOf(thick, 0, 1);
        CHECK.same("7 cut(): none can be thin", -1, thick.cut());
    }

    // "what is told of works and NEEDS ends the NIGHT, and takes the PLAN away"
    private static void tellingEndsPlanAndNight() {
        DarkDesk work = Desks.busy();
        CHECK.same("a plan and a night", 2, work.count(5) + work.count(6));
        work.work(1, 1, 1, 1);
        CHECK.same("a work takes the plan away", 0, work.count(5));
        CHECK.same("a work ends the night", 0, work.count(6));
        DarkDesk need = Desks.busy();
        need.need(1, 0, false);
        CHECK.same("a need that was there already takes the plan away", 0, need.count(5));
        CHECK.same("a need that was there already ends the night", 0, need.count(6));
        DarkDesk others = Desks.busy();
        others.store();
        others.copy(1, 1, 1);
        others.torn(1, 0, true);
        others.letter(0, 1, 1, 1);
        others.change(0, 1);
        others.together();
        others.cut();
        others.rings(1);
        CHECK.same("stores and questions leave the plan", 1, others.count(5));
        CHECK.same("stores and questions leave the night", 1, others.count(6));
        others.night(3);
        CHECK.same("a night leaves the plan", 1, others.count(5));
        others.plan(4, 0);
        CHECK.same("a plan leaves the night", 1, others.count(6));
        others.plan(1, 0);
        CHECK.same("a plan that is none leaves the night", 1, others.count(6));
    }
}

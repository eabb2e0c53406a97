/** Promises 8 to 15 and the second part of the Terms: each sentence that names a boundary has a test of its own. */
public final class StoresEdgesTest {
    private static final Check CHECK = new Check();
    private static final Class<IllegalArgumentException> BAD = IllegalArgumentException.class;
    private static final Class<UnsupportedOperationException> FULL = UnsupportedOperationException.class;

    public static void main(String[] args) {
        sixStoresNumberedFromZero();
        aStoreWithoutCopies();
        fourCopiesOfEach();
        ticksOfACopy();
        aLogOfNone();
        statesFromAgeToLog();
        statesOfSeveralCopies();
        notTornAtFirst();
        tornIsAnotherStateOrNot();
        tornGivesNothing();
        thirtyLetters();
        ticksOfALetter();
        gotNotAheadOfSent();
        eightyChanges();
        ticksOfAChange();
        togetherWithoutStores();
        togetherNeedsEveryStore();
        gotAtTheState();
        sentAtTheState();
        lettersOfTickZero();
        lettersOfTheLastTick();
        aLetterBackToTheAge();
        aLetterIntoAGap();
        aLetterBothWays();
        greatestOfAllChoices();
        allTheWayBack();
        noneByTheLastStep();
        stateNoneForEveryStore();
        lostAtAndBehindTheState();
        lostOfOneStoreAlone();
        lostOfNone();
        lostAll();
        CHECK.end("StoresEdgesTest");
    }

    // "STORES (at most 6, numbered from 0 on)"; promise 8: "UnsupportedOperationException: there are 6."
    private static void sixStoresNumberedFromZero() {
        DarkDesk desk = new DarkDesk();
        for (int i = 0; i < 6; i++) {
            CHECK.same("8 store " + i, i, desk.store());
            CHECK.same("8 count(2)", i + 1, desk.count(2));
        }
        CHECK.refuses("8 a seventh store", FULL, desk::store);
        CHECK.same("8 count(2) behind it", 6, desk.count(2));
        CHECK.same("8 a copy of the last store", 0, desk.copy(5, 0, 0));
    }

    // Promise 8: "A STORE without COPIES".
    private static void aStoreWithoutCopies() {
        DarkDesk desk = Desks.stores(1);
        CHECK.refuses("8 torn(0, 0)", IndexOutOfBoundsException.class, () -> desk.torn(0, 0, true));
        CHECK.same("8 together()", false, desk.together());
        CHECK.same("8 state(0)", -1, desk.state(0));
        CHECK.same("8 lost(0)", -1, desk.lost(0));
    }

    // "COPIES (at most 4 each)"; promise 9: "its number there (from 0 on)", "UnsupportedOperationException: it has 4."
    private static void fourCopiesOfEach() {
        DarkDesk desk = Desks.stores(6);
        for (int store = 0; store < 6; store++) {
            for (int copy = 0; copy < 4; copy++) {
                CHECK.same("9 copy " + copy + " of " + store, copy, desk.copy(store, store, store + copy));
            }
        }
        for (int store = 0; store < 6; store++) {
            int its = store;
            CHECK.refuses("9 a fifth copy of " + store, FULL, () -> desk.copy(its, 9, 99));
            CHECK.same("9 state(" + store + "): the fifth is none", store + 3, desk.state(store));
            CHECK.same("9 copy 3 of " + store + " is there", true, desk.torn(store, 3, true));
            CHECK.same("9 state(" + store + ") by copy 2", store + 2, desk.state(store));
        }
    }

    // "(Ticks are 0 to 100000.)"; promise 9: "IllegalArgumentException: a tick is none".
    private static void ticksOfACopy() {
        DarkDesk desk = Desks.stores(1);
        CHECK.same("9 from 0 to 100000", 0, desk.copy(0, 0, 100000));
        CHECK.same("9 from 0 to 0", 1, desk.copy(0, 0, 0));
        CHECK.same("9 from 100000 to 100000", 2, desk.copy(0, 100000, 100000));
        CHECK.refuses("9 from -1", BAD, () -> desk.copy(0, -1, 0));
        CHECK.refuses("9 from -1 to -1", BAD, () -> desk.copy(0, -1, -1));
        CHECK.refuses("9 to 100001", BAD, () -> desk.copy(0, 0, 100001));
        CHECK.refuses("9 from 100001 to 100001", BAD, () -> desk.copy(0, 100001, 100001));
        CHECK.same("9 a refused one takes no number", 3, desk.copy(0, 5, 5));
    }

    // "with a LOG up to a tick (its AGE: none)"; promise 9: "or LOG is ahead of AGE".
    private static void aLogOfNone() {
        DarkDesk desk = Desks.stores(1);
        CHECK.same("9 log at its age", 0, desk.copy(0, 7, 7));
        CHECK.same("9 state(0) without a log", 7, desk.state(0));
        CHECK.refuses("9 log a tick ahead of its age", BAD, () -> desk.copy(0, 7, 6));
        CHECK.same("9 log a tick behind its age", 1, desk.copy(0, 7, 8));
        CHECK.same("9 state(0) by the log", 8, desk.state(0));
    }

    // "it gives the states of all ticks from AGE to LOG, if it is not TORN": the letter leaves STORE 0 ticks below it.
    private static void statesFromAgeToLog() {
        int[] due = {-1, -1, -1, -1, 3, 4, 5, 6, 6, 6};
        for (int limit = 1; limit < due.length; limit++) {
            DarkDesk desk = Desks.stores(2);
            desk.copy(0, 3, 6);
            desk.copy(1, 0, 0);
            desk.letter(1, 1, 0, limit);
            CHECK.same("9 state(0) below " + limit, due[limit], desk.state(0));
        }
    }

    private static void statesOfSeveralCopies() {
        int[] due = {-1, 0, 0, 0, 3, 4, 4, 4, 7, 8, 9, 9};
        for (int limit = 1; limit < due.length; limit++) {
            DarkDesk desk = Desks.stores(2);
            desk.copy(0, 7, 9);
            desk.copy(0, 0, 0);
            desk.copy(0, 3, 4);
            desk.copy(0, 4, 4);
            desk.copy(1, 0, 0);
            desk.letter(1, 1, 0, limit);
            CHECK.same("9 state(0) of four copies below " + limit, due[limit], desk.state(0));
        }
    }

    // Promise 10: "A COPY is TORN, or not: whether that is another state than before."
    private static void notTornAtFirst() {
        DarkDesk desk = Desks.stores(2);
        for (int copy = 0; copy < 4; copy++) {
            desk.copy(1, copy, copy);
            CHECK.same("10 copy " + copy + " is not torn at first", false, desk.torn(1, copy, false));
        }
        CHECK.same("10 copy 3 gives its state", 3, desk.copy(0, 0, 0) == 0 ? desk.state(1) : -2);
    }

    private static void tornIsAnotherStateOrNot() {
        DarkDesk desk = Desks.stores(2);
        desk.copy(0, 0, 0);
        desk.copy(1, 0, 0);
        CHECK.same("10 torn", true, desk.torn(0, 0, true));
        CHECK.same("10 torn again", false, desk.torn(0, 0, true));
        CHECK.same("10 the other store's is not", true, desk.torn(1, 0, true));
        CHECK.same("10 mended", true, desk.torn(0, 0, false));
        CHECK.same("10 mended again", false, desk.torn(0, 0, false));
        CHECK.same("10 the other store's is torn still", false, desk.torn(1, 0, true));
    }

    private static void tornGivesNothing() {
        DarkDesk desk = Desks.stores(1);
        desk.copy(0, 0, 2);
        desk.copy(0, 5, 9);
        CHECK.same("10 both", 9, desk.state(0));
        desk.torn(0, 1, true);
        CHECK.same("10 the younger is torn", 2, desk.state(0));
        desk.torn(0, 0, true);
        CHECK.same("10 both are torn", -1, desk.state(0));
        CHECK.same("10 a new one beside torn ones", 2, desk.copy(0, 1, 1));
        CHECK.same("10 state(0) by it", 1, desk.state(0));
        desk.torn(0, 1, false);
        CHECK.same("10 mended", 9, desk.state(0));
    }

    // "LETTERS (at most 30)"; promise 11: "A LETTER: how many there are.", "there are 30."
    private static void thirtyLetters() {
        DarkDesk desk = Desks.stores(3);
        desk.copy(0, 0, 0);
        desk.copy(1, 0, 9);
        desk.copy(2, 0, 9);
        for (int i = 0; i < 29; i++) {
            CHECK.same("11 letter " + (i + 1), i + 1, desk.letter(1, 0, 0, i));
        }
        CHECK.same("11 state(1) behind 29", 9, desk.state(1));
        CHECK.same("11 letter 30", 30, desk.letter(0, 1, 1, 5));
        CHECK.same("11 state(1): letter 30 counts", 4, desk.state(1));
        CHECK.refuses("11 letter 31", FULL, () -> desk.letter(0, 1, 2, 5));
        CHECK.same("11 state(2): letter 31 is none", 9, desk.state(2));
        CHECK.same("11 count(3)", 30, desk.count(3));
    }

    private static void ticksOfALetter() {
        DarkDesk desk = Desks.stores(2);
        CHECK.same("11 sent and got at 0", 1, desk.letter(0, 0, 1, 0));
        CHECK.same("11 sent at 0, got at 100000", 2, desk.letter(1, 0, 0, 100000));
        CHECK.same("11 sent and got at 100000", 3, desk.letter(0, 100000, 1, 100000));
        CHECK.refuses("11 sent at -1", BAD, () -> desk.letter(0, -1, 1, 0));
        CHECK.refuses("11 sent and got at -1", BAD, () -> desk.letter(0, -1, 1, -1));
        CHECK.refuses("11 got at 100001", BAD, () -> desk.letter(0, 100000, 1, 100001));
        CHECK.refuses("11 sent and got at 100001", BAD, () -> desk.letter(0, 100001, 1, 100001));
        CHECK.refuses("11 to itself", BAD, () -> desk.letter(1, 0, 1, 0));
        CHECK.same("11 count(3)", 3, desk.count(3));
    }

    // "GOT at a tick (not ahead of SENT)"
    private static void gotNotAheadOfSent() {
        DarkDesk desk = Desks.stores(2);
        CHECK.same("11 got when it was sent", 1, desk.letter(0, 5, 1, 5));
        CHECK.same("11 got a tick behind", 2, desk.letter(0, 5, 1, 6));
        CHECK.refuses("11 got a tick ahead", BAD, () -> desk.letter(0, 5, 1, 4));
        CHECK.same("11 count(3)", 2, desk.count(3));
    }

    // "CHANGES (at most 80)"; promise 12: "A CHANGE: how many there are.", "there are 80."
    private static void eightyChanges() {
        DarkDesk desk = Desks.stores(6);
        for (int i = 0; i < 79; i++) {
            CHECK.same("12 change " + (i + 1), i + 1, desk.change(i % 5, i));
        }
        CHECK.same("12 change 80", 80, desk.change(5, 7));
        CHECK.refuses("12 change 81", FULL, () -> desk.change(5, 7));
        CHECK.same("12 count(4)", 80, desk.count(4));
        for (int store = 0; store < 6; store++) {
            desk.copy(store, 0, 0);
        }
        CHECK.same("12 lost(5): change 80 alone", 1, desk.lost(5));
    }

    // Promise 12: "IllegalArgumentException: the tick is none".
    private static void ticksOfAChange() {
        DarkDesk desk = Desks.stores(1);
        CHECK.same("12 at 0", 1, desk.change(0, 0));
        CHECK.same("12 at 100000", 2, desk.change(0, 100000));
        CHECK.refuses("12 at -1", BAD, () -> desk.change(0, -1));
        CHECK.refuses("12 at 100001", BAD, () -> desk.change(0, 100001));
        CHECK.same("12 count(4)", 2, desk.count(4));
    }

    // Promise 13: "Whether there is a choice as told in TOGETHER (true without STORES)."
    private static void togetherWithoutStores() {
        CHECK.same("13 together() without stores", true, new DarkDesk().together());
        CHECK.same("13 together() with works alone", true, Desks.works(8, 0).together());
    }

    // "of each STORE a state is chosen that some COPY gives"
    private static void togetherNeedsEveryStore() {
        DarkDesk desk = Desks.stores(6);
        for (int store = 0; store < 6; store++) {
            CHECK.same("13 together() without a copy of " + store, false, desk.together());
            desk.copy(store, 4, 4);
        }
        CHECK.same("13 together() with a copy of each", true, desk.together());
        for (int store = 0; store < 6; store++) {
            desk.torn(store, 0, true);
            CHECK.same("13 together() with the copy of " + store + " torn", false, desk.together());
            desk.torn(store, 0, false);
        }
        CHECK.same("13 together() with all mended", true, desk.together());
    }

    // "no LETTER was GOT (its tick is not above the state of the STORE that got it) .."
    private static void gotAtTheState() {
        DarkDesk at = twoStores(3, 8);
        at.letter(0, 4, 1, 8);
        CHECK.same("14 got at the state's tick: it was got", 7, at.state(1));
        DarkDesk above = twoStores(3, 8);
        above.letter(0, 4, 1, 9);
        CHECK.same("14 got a tick above the state: it was not", 8, above.state(1));
    }

    // ".. but not SENT (its tick is above the state of the other one)"
    private static void sentAtTheState() {
        DarkDesk at = twoStores(3, 8);
        at.letter(0, 3, 1, 5);
        CHECK.same("14 sent at the state's tick: it was sent", 8, at.state(1));
        DarkDesk above = twoStores(3, 8);
        above.letter(0, 4, 1, 5);
        CHECK.same("14 sent a tick above the state: it was not", 4, above.state(1));
        CHECK.same("14 the sender stays", 3, above.state(0));
    }

    private static DarkDesk twoStores(int first, int second) {
        DarkDesk desk = Desks.stores(2);
        desk.copy(0, 0, first);
        desk.copy(1, 0, second);
        return desk;
    }

    private static void lettersOfTickZero() {
        DarkDesk sent = twoStores(0, 0);
        sent.letter(0, 0, 1, 0);
        CHECK.same("14 sent and got at 0", 0, sent.state(1));
        DarkDesk first = Desks.stores(2);
        first.copy(0, 0, 0);
        first.copy(1, 0, 5);
        first.letter(0, 1, 1, 1);
        CHECK.same("14 back to state 0", 0, first.state(1));
        CHECK.same("14 state 0 is a choice", true, first.together());
    }

    private static void lettersOfTheLastTick() {
        DarkDesk desk = twoStores(99999, 100000);
        desk.letter(0, 100000, 1, 100000);
        CHECK.same("14 got at 100000", 99999, desk.state(1));
        desk.copy(0, 100000, 100000);
        CHECK.same("14 and sent at 100000", 100000, desk.state(1));
    }

    private static void aLetterBackToTheAge() {
        DarkDesk desk = Desks.stores(2);
        desk.copy(0, 0, 1);
        desk.copy(1, 4, 9);
        desk.letter(0, 2, 1, 5);
        CHECK.same("14 back to the age itself", 4, desk.state(1));
        desk.letter(0, 2, 1, 4);
        CHECK.same("14 and no further", -1, desk.state(1));
        CHECK.same("14 so there is no choice", false, desk.together());
    }

    private static void aLetterIntoAGap() {
        DarkDesk desk = Desks.stores(2);
        desk.copy(0, 0, 1);
        desk.copy(1, 2, 3);
        desk.copy(1, 6, 9);
        desk.letter(0, 2, 1, 6);
        CHECK.same("14 over the gap", 3, desk.state(1));
    }

    private static void aLetterBothWays() {
        DarkDesk desk = twoStores(5, 5);
        desk.letter(0, 6, 1, 6);
        desk.letter(1, 6, 0, 6);
        CHECK.same("14 neither was got", 5, desk.state(0));
        CHECK.same("14 neither was got, turned", 5, desk.state(1));
        desk.copy(0, 6, 6);
        CHECK.same("14 0 got one that was not sent", 5, desk.state(0));
        desk.copy(1, 6, 6);
        CHECK.same("14 both were sent", 6, desk.state(0));
        CHECK.same("14 both were sent, turned", 6, desk.state(1));
    }

    // "of all such choices that in which each STORE's state is the greatest that it has in any"
    private static void greatestOfAllChoices() {
        DarkDesk desk = Desks.stores(3);
        desk.copy(0, 0, 2);
        desk.copy(1, 0, 50);
        desk.copy(2, 0, 50);
        desk.letter(0, 3, 1, 30);
        desk.letter(1, 20, 2, 40);
        CHECK.same("14 state(0)", 2, desk.state(0));
        CHECK.same("14 state(1) goes back to 29", 29, desk.state(1));
        CHECK.same("14 state(2) stays, as 1 has sent at 20", 50, desk.state(2));
        desk.letter(1, 30, 2, 45);
        CHECK.same("14 state(2) goes back, as 1 has not sent at 30", 44, desk.state(2));
    }

    /** Each letter, told in the wrong order, forces one store a copy back and by it the other one. */
    private static DarkDesk forcedBack(int letters) {
        DarkDesk desk = Desks.stores(2);
        for (int copy = 0; copy < 4; copy++) {
            desk.copy(0, 10 * copy, 10 * copy);
            desk.copy(1, 10 * copy + 5, 10 * copy + 5);
        }
        for (int i = letters - 1; i >= 0; i--) {
            int tick = 31 - 5 * i;
            desk.letter(i % 2, tick, 1 - i % 2, tick);
        }
        return desk;
    }

    private static void allTheWayBack() {
        int[][] due = {{30, 35}, {30, 25}, {20, 25}, {20, 15}, {10, 15}, {10, 5}, {0, 5}};
        for (int letters = 0; letters < due.length; letters++) {
            DarkDesk desk = forcedBack(letters);
            CHECK.same("14 state(0) by " + letters + " letters", due[letters][0], desk.state(0));
            CHECK.same("14 state(1) by " + letters + " letters", due[letters][1], desk.state(1));
        }
    }

    // "none, if there is no such choice"
    private static void noneByTheLastStep() {
        DarkDesk desk = forcedBack(7);
        CHECK.same("13 together() by 7 letters", false, desk.together());
        CHECK.same("14 state(0) by 7 letters", -1, desk.state(0));
        CHECK.same("14 state(1) by 7 letters", -1, desk.state(1));
    }

    // Promises 14 and 15: "NONE if there is no choice."
    private static void stateNoneForEveryStore() {
        DarkDesk desk = Desks.stores(6);
        for (int store = 0; store < 5; store++) {
            desk.copy(store, 0, 9);
            desk.change(store, 10);
        }
        for (int store = 0; store < 6; store++) {
            CHECK.same("14 state(" + store + "), as one has no copy", -1, desk.state(store));
            CHECK.same("15 lost(" + store + "), as one has no copy", -1, desk.lost(store));
        }
        desk.copy(5, 0, 0);
        CHECK.same("14 state(0) then", 9, desk.state(0));
        CHECK.same("15 lost(0) then", 1, desk.lost(0));
        CHECK.same("15 lost(5) then", 0, desk.lost(5));
    }

    // Promise 15: "How many CHANGES of a STORE are later than that state".
    private static void lostAtAndBehindTheState() {
        DarkDesk desk = Desks.stores(1);
        desk.copy(0, 5, 5);
        desk.change(0, 4);
        CHECK.same("15 a tick ahead of the state", 0, desk.lost(0));
        desk.change(0, 5);
        CHECK.same("15 at the state", 0, desk.lost(0));
        desk.change(0, 6);
        CHECK.same("15 a tick behind the state", 1, desk.lost(0));
        desk.change(0, 6);
        CHECK.same("15 the same tick again", 2, desk.lost(0));
        desk.change(0, 100000);
        CHECK.same("15 the last tick", 3, desk.lost(0));
        desk.copy(0, 100000, 100000);
        CHECK.same("15 a state at the last tick", 0, desk.lost(0));
    }

    private static void lostOfOneStoreAlone() {
        DarkDesk desk = Desks.stores(2);
        desk.copy(0, 5, 5);
        desk.copy(1, 0, 0);
        desk.change(0, 9);
        CHECK.same("15 lost(1): the change is 0's", 0, desk.lost(1));
        CHECK.same("15 lost(0)", 1, desk.lost(0));
        desk.change(1, 1);
        CHECK.same("15 lost(1) behind its own state", 1, desk.lost(1));
        CHECK.same("15 lost(0) stays", 1, desk.lost(0));
    }

    private static void lostOfNone() {
        DarkDesk desk = Desks.stores(1);
        desk.change(0, 9);
        CHECK.same("15 without copies", -1, desk.lost(0));
        desk.copy(0, 0, 0);
        desk.torn(0, 0, true);
        CHECK.same("15 with torn copies", -1, desk.lost(0));
        desk.torn(0, 0, false);
        CHECK.same("15 mended", 1, desk.lost(0));
    }

    private static void lostAll() {
        DarkDesk desk = Desks.stores(1);
        for (int i = 0; i < 80; i++) {
            desk.change(0, 1 + i);
        }
        desk.copy(0, 0, 0);
        CHECK.same("15 all 80", 80, desk.lost(0));
        desk.copy(0, 80, 80);
        CHECK.same("15 none of 80", 0, desk.lost(0));
    }
}

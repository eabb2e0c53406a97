/** Promises 8 to 15: stores, copies, letters, changes, the states that belong together and what is lost. */
public final class StoresTest {
    private static final Check CHECK = new Check();
    private static final Class<IllegalArgumentException> BAD = IllegalArgumentException.class;
    private static final Class<IndexOutOfBoundsException> OUT = IndexOutOfBoundsException.class;
    private static final Class<UnsupportedOperationException> FULL = UnsupportedOperationException.class;

    public static void main(String[] args) {
        stores();
        copies();
        copyRefusals();
        torn();
        letterRefusals();
        lettersFull();
        changes();
        changesFull();
        statesOfCopies();
        aLetterAtTheEdge();
        lettersInARow();
        noChoiceByALetter();
        lost();
        CHECK.end("StoresTest");
    }

    private static DarkDesk desk(int stores) {
        DarkDesk desk = new DarkDesk();
        for (int i = 0; i < stores; i++) {
            desk.store();
        }
        return desk;
    }

    private static void stores() {
        DarkDesk desk = new DarkDesk();
        for (int i = 0; i < 6; i++) {
            CHECK.same("store()", i, desk.store());
        }
        CHECK.refuses("a seventh store", FULL, desk::store);
        CHECK.same("count(2)", 6, desk.count(2));
        CHECK.same("stores leave works alone", 0, desk.count(0));
        CHECK.same("together() without copies", false, desk.together());
    }

    private static void copies() {
        DarkDesk desk = desk(2);
        CHECK.same("copy 0", 0, desk.copy(0, 0, 100000));
        CHECK.same("copy 1", 1, desk.copy(0, 5, 5));
        CHECK.same("copy 0 of store 1", 0, desk.copy(1, 100000, 100000));
        CHECK.same("copy 2", 2, desk.copy(0, 0, 0));
        CHECK.same("copy 3", 3, desk.copy(0, 1, 2));
        CHECK.refuses("copy 4", FULL, () -> desk.copy(0, 1, 2));
        CHECK.refuses("copy 4, wrong", BAD, () -> desk.copy(0, 2, 1));
        CHECK.same("copy 1 of store 1", 1, desk.copy(1, 3, 4));
        CHECK.same("state(0)", 100000, desk.state(0));
        CHECK.same("state(1)", 100000, desk.state(1));
    }

    private static void copyRefusals() {
        DarkDesk desk = desk(1);
        CHECK.refuses("copy(1, 0, 0)", OUT, () -> desk.copy(1, 0, 0));
        CHECK.refuses("copy(-1, -1, 0)", OUT, () -> desk.copy(-1, -1, 0));
        CHECK.refuses("copy(0, -1, 0)", BAD, () -> desk.copy(0, -1, 0));
        CHECK.refuses("copy(0, 0, 100001)", BAD, () -> desk.copy(0, 0, 100001));
        CHECK.refuses("copy(0, 100001, 100001)", BAD, () -> desk.copy(0, 100001, 100001));
        CHECK.refuses("copy(0, 7, 6)", BAD, () -> desk.copy(0, 7, 6));
        CHECK.same("a refused copy is none", false, desk.together());
        CHECK.refuses("torn of a refused copy", OUT, () -> desk.torn(0, 0, true));
    }

    private static void torn() {
        DarkDesk desk = desk(1);
        desk.copy(0, 2, 4);
        desk.copy(0, 6, 9);
        CHECK.same("it was not torn", false, desk.torn(0, 1, false));
        CHECK.same("it is torn", true, desk.torn(0, 1, true));
        CHECK.same("it was torn", false, desk.torn(0, 1, true));
        CHECK.same("state(0) by the other one", 4, desk.state(0));
        CHECK.same("both are torn", true, desk.torn(0, 0, true));
        CHECK.same("together()", false, desk.together());
        CHECK.same("state(0)", -1, desk.state(0));
        CHECK.same("lost(0)", -1, desk.lost(0));
        CHECK.same("it is mended", true, desk.torn(0, 1, false));
        CHECK.same("state(0) again", 9, desk.state(0));
        CHECK.refuses("torn(0, 2)", OUT, () -> desk.torn(0, 2, true));
        CHECK.refuses("torn(0, -1)", OUT, () -> desk.torn(0, -1, true));
        CHECK.refuses("torn(1, 0)", OUT, () -> desk.torn(1, 0, true));
        CHECK.refuses("torn(-1, 0)", OUT, () -> desk.torn(-1, 0, true));
        CHECK.refuses("state(1)", OUT, () -> desk.state(1));
        CHECK.refuses("lost(-1)", OUT, () -> desk.lost(-1));
    }

    private static void letterRefusals() {
        DarkDesk desk = desk(2);
        CHECK.same("least letter", 1, desk.letter(0, 0, 1, 0));
        CHECK.same("greatest letter", 2, desk.letter(1, 100000, 0, 100000));
        CHECK.refuses("from none", OUT, () -> desk.letter(2, 0, 1, 0));
        CHECK.refuses("to none", OUT, () -> desk.letter(0, 0, -1, 0));
        CHECK.refuses("from none to none, wrong", OUT, () -> desk.letter(2, -1, 2, -2));
        CHECK.refuses("to itself", BAD, () -> desk.letter(1, 0, 1, 0));
        CHECK.refuses("sent at no tick", BAD, () -> desk.letter(0, -1, 1, 0));
        CHECK.refuses("got at no tick", BAD, () -> desk.letter(0, 0, 1, 100001));
        CHECK.refuses("got ahead of sent", BAD, () -> desk.letter(0, 5, 1, 4));
        CHECK.same("count(3)", 2, desk.count(3));
    }

    private static void lettersFull() {
        DarkDesk desk = desk(2);
        for (int i = 0; i < 30; i++) {
            CHECK.same("letter " + i, i + 1, desk.letter(i % 2, i, 1 - i % 2, i));
        }
        CHECK.refuses("letter 31", FULL, () -> desk.letter(0, 1, 1, 1));
        CHECK.refuses("letter 31 to itself", BAD, () -> desk.letter(0, 1, 0, 1));
        CHECK.same("count(3)", 30, desk.count(3));
    }

    private static void changes() {
        DarkDesk desk = desk(2);
        CHECK.same("first change", 1, desk.change(0, 0));
        CHECK.same("second change", 2, desk.change(1, 100000));
        CHECK.refuses("change(2, 0)", OUT, () -> desk.change(2, 0));
        CHECK.refuses("change(-1, -1)", OUT, () -> desk.change(-1, -1));
        CHECK.refuses("change(0, -1)", BAD, () -> desk.change(0, -1));
        CHECK.refuses("change(0, 100001)", BAD, () -> desk.change(0, 100001));
        CHECK.same("count(4)", 2, desk.count(4));
    }

    private static void changesFull() {
        DarkDesk desk = desk(1);
        for (int i = 0; i < 80; i++) {
            CHECK.same("change " + i, i + 1, desk.change(0, i));
        }
        CHECK.refuses("change 81", FULL, () -> desk.change(0, 1));
        CHECK.refuses("change 81, wrong", BAD, () -> desk.change(0, -1));
        desk.copy(0, 40, 50);
        CHECK.same("lost(0)", 29, desk.lost(0));
    }

    private static void statesOfCopies() {
        DarkDesk desk = desk(2);
        desk.copy(0, 1, 3);
        desk.copy(0, 6, 8);
        desk.copy(1, 0, 4);
        CHECK.same("state(0)", 8, desk.state(0));
        desk.letter(1, 5, 0, 7);
        CHECK.same("state(0) ahead of the letter", 6, desk.state(0));
        desk.letter(1, 5, 0, 6);
        CHECK.same("state(0) falls into the gap's lower end", 3, desk.state(0));
        CHECK.same("state(1)", 4, desk.state(1));
    }

    private static void aLetterAtTheEdge() {
        DarkDesk desk = desk(2);
        desk.copy(0, 0, 5);
        desk.copy(1, 0, 9);
        desk.letter(0, 5, 1, 9);
        CHECK.same("sent by the state", 9, desk.state(1));
        desk.letter(0, 6, 1, 10);
        CHECK.same("not got by the state", 9, desk.state(1));
        desk.letter(0, 6, 1, 9);
        CHECK.same("got but not sent", 8, desk.state(1));
    }

    private static void lettersInARow() {
        DarkDesk desk = desk(6);
        for (int store = 0; store < 6; store++) {
            desk.copy(store, 0, store == 0 ? 3 : 100);
        }
        for (int store = 5; store > 0; store--) {
            desk.letter(store - 1, 5 * store - 1, store, 5 * store);
        }
        for (int store = 1; store < 6; store++) {
            CHECK.same("state(" + store + ")", 5 * store - 1, desk.state(store));
        }
    }

    private static void noChoiceByALetter() {
        DarkDesk desk = desk(3);
        desk.copy(0, 5, 9);
        desk.copy(1, 7, 9);
        desk.copy(2, 1, 1);
        CHECK.same("together()", true, desk.together());
        desk.letter(1, 10, 0, 10);
        CHECK.same("a letter that nobody got", true, desk.together());
        desk.letter(2, 2, 1, 7);
        CHECK.same("a letter that every state of 1 got", false, desk.together());
        CHECK.same("state(2) without a choice", -1, desk.state(2));
        CHECK.same("lost(2) without a choice", -1, desk.lost(2));
        desk.copy(1, 0, 6);
        CHECK.same("an older copy helps", true, desk.together());
        CHECK.same("state(1)", 6, desk.state(1));
        DarkDesk first = desk(2);
        first.copy(0, 0, 9);
        first.copy(1, 0, 0);
        first.letter(1, 0, 0, 0);
        CHECK.same("sent and got at 0", true, first.together());
    }

    private static void lost() {
        DarkDesk desk = desk(2);
        desk.copy(0, 3, 6);
        desk.copy(1, 0, 2);
        desk.change(0, 6);
        desk.change(0, 7);
        desk.change(0, 7);
        desk.change(1, 8);
        desk.change(0, 2);
        CHECK.same("lost(0): those behind 6", 2, desk.lost(0));
        CHECK.same("lost(1)", 1, desk.lost(1));
        desk.letter(1, 3, 0, 5);
        CHECK.same("lost(0): those behind 4", 3, desk.lost(0));
    }
}

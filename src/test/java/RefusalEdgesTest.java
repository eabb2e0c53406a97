import java.util.NoSuchElementException;
import java.util.function.Consumer;
import java.util.function.Supplier;

/**
 * The document's row on exceptions, call by call: "Of several exceptions the one told first is thrown; a call that
 * throws changes nothing." Each refused call is made on a desk with a PLAN and a NIGHT, on a full one, or without a
 * NIGHT, and all that the desk tells must stay.
 */
public final class RefusalEdgesTest {
    private static final Check CHECK = new Check();
    private static final Class<IllegalArgumentException> BAD = IllegalArgumentException.class;
    private static final Class<IndexOutOfBoundsException> OUT = IndexOutOfBoundsException.class;
    private static final Class<UnsupportedOperationException> FULL = UnsupportedOperationException.class;
    private static final Class<IllegalStateException> NO_NIGHT = IllegalStateException.class;
    private static final Class<NoSuchElementException> NO_SUCH = NoSuchElementException.class;

    public static void main(String[] args) {
        workOutsideItsNumbers();
        workFull();
        workWrongAndFull();
        needOfNoWork();
        needOfItself();
        needFull();
        needOfSeveralFaults();
        storeFull();
        copyOfNoStore();
        copyOutsideItsTicks();
        copyFull();
        copyOfSeveralFaults();
        tornOfNone();
        letterOfNoStore();
        letterWrong();
        letterFull();
        letterOfSeveralFaults();
        changeOfNoStore();
        changeOutsideItsTicks();
        changeFull();
        changeOfSeveralFaults();
        askedOfNoWork();
        askedOfNoStore();
        planAndNightHands();
        nightCallsOfNoWork();
        nightCallsWithoutANight();
        nightCallsOfSeveralFaults();
        tickOutsideItsNumbers();
        lookAndNowOfNothing();
        CHECK.end("RefusalEdgesTest");
    }

    private static void busy(String call, Class<? extends RuntimeException> due, Consumer<DarkDesk> asked) {
        CHECK.refuses(call + " of a busy desk", due, Desks::busy, asked);
    }

    private static void full(String call, Class<? extends RuntimeException> due, Consumer<DarkDesk> asked) {
        CHECK.refuses(call + " of a full desk", due, Desks::full, asked);
    }

    private static void quiet(String call, Class<? extends RuntimeException> due, Consumer<DarkDesk> asked) {
        CHECK.refuses(call + " without a night", due, Desks::quiet, asked);
    }

    // "TICKS (1 to 12)", "HANDS (1 to 6)", "WEIGHT (0 to 100)", "(0 to 1000; NONE: it cannot)";
    // "IllegalArgumentException: a number is none".
    private static void workOutsideItsNumbers() {
        for (int ticks : new int[] {0, 13, -1, Integer.MIN_VALUE, Integer.MAX_VALUE}) {
            busy("work of ticks " + ticks, BAD, d -> d.work(ticks, 1, 1, 1));
        }
        for (int hands : new int[] {0, 7, -1, Integer.MIN_VALUE, Integer.MAX_VALUE}) {
            busy("work of hands " + hands, BAD, d -> d.work(1, hands, 1, 1));
        }
        for (int weight : new int[] {-1, 101, Integer.MIN_VALUE, Integer.MAX_VALUE}) {
            busy("work of weight " + weight, BAD, d -> d.work(1, 1, weight, 1));
        }
        for (int cost : new int[] {-2, 1001, Integer.MIN_VALUE, Integer.MAX_VALUE}) {
            busy("work of cost " + cost, BAD, d -> d.work(1, 1, 1, cost));
        }
    }

    // "UnsupportedOperationException: there are 8."
    private static void workFull() {
        full("a ninth work", FULL, d -> d.work(1, 1, 0, -1));
        CHECK.refuses("a ninth work of eight without needs", FULL, () -> Desks.works(8, 0), d -> d.work(12, 6, 100, 1000));
    }

    // IllegalArgumentException is told ahead of UnsupportedOperationException.
    private static void workWrongAndFull() {
        full("a ninth work, wrong ticks", BAD, d -> d.work(0, 1, 1, 1));
        full("a ninth work, wrong hands", BAD, d -> d.work(1, 7, 1, 1));
        full("a ninth work, wrong weight", BAD, d -> d.work(1, 1, 101, 1));
        full("a ninth work, wrong cost", BAD, d -> d.work(1, 1, 1, -2));
    }

    // "IndexOutOfBoundsException: there is no such work".
    private static void needOfNoWork() {
        busy("need(3, 0)", OUT, d -> d.need(3, 0, false));
        busy("need(0, 3)", OUT, d -> d.need(0, 3, true));
        for (int none : Desks.NO_NUMBERS) {
            busy("need(" + none + ", 0)", OUT, d -> d.need(none, 0, true));
            busy("need(0, " + none + ")", OUT, d -> d.need(0, none, false));
        }
    }

    // "IllegalArgumentException: the works are one".
    private static void needOfItself() {
        for (int work = 0; work < 3; work++) {
            int one = work;
            busy("need(" + one + ", itself)", BAD, d -> d.need(one, one, true));
        }
    }

    // "UnsupportedOperationException: there are 40."
    private static void needFull() {
        full("a new need", FULL, d -> d.need(0, 1, true));
        full("a need that is there already", FULL, d -> d.need(1, 0, false));
    }

    private static void needOfSeveralFaults() {
        busy("need(3, 3): no such work, and one", OUT, d -> d.need(3, 3, false));
        busy("need(-1, -1): no such work, and one", OUT, d -> d.need(-1, -1, false));
        full("need(8, 0): no such work, and full", OUT, d -> d.need(8, 0, false));
        full("need(0, -1): no such work, and full", OUT, d -> d.need(0, -1, false));
        full("need(8, 8): all of it", OUT, d -> d.need(8, 8, false));
        full("need(7, 7): one, and full", BAD, d -> d.need(7, 7, false));
    }

    // "UnsupportedOperationException: there are 6."
    private static void storeFull() {
        full("a seventh store", FULL, d -> d.store());
        CHECK.refuses("a seventh store of six without copies", FULL, () -> Desks.stores(6), d -> d.store());
    }

    private static void copyOfNoStore() {
        busy("copy(2, ..)", OUT, d -> d.copy(2, 0, 0));
        for (int none : Desks.NO_NUMBERS) {
            busy("copy(" + none + ", ..)", OUT, d -> d.copy(none, 0, 0));
        }
    }

    // "(Ticks are 0 to 100000.)"; "IllegalArgumentException: a tick is none, or LOG is ahead of AGE".
    private static void copyOutsideItsTicks() {
        busy("copy of age -1", BAD, d -> d.copy(0, -1, 5));
        busy("copy of age and log -1", BAD, d -> d.copy(0, -1, -1));
        busy("copy of log 100001", BAD, d -> d.copy(0, 5, 100001));
        busy("copy of age and log 100001", BAD, d -> d.copy(0, 100001, 100001));
        busy("copy of log ahead of age", BAD, d -> d.copy(0, 6, 5));
        busy("copy of log 0 ahead of age 100000", BAD, d -> d.copy(0, 100000, 0));
        busy("copy of the least and the greatest int", BAD, d -> d.copy(0, Integer.MIN_VALUE, Integer.MAX_VALUE));
        busy("copy of the greatest and the least int", BAD, d -> d.copy(0, Integer.MAX_VALUE, Integer.MIN_VALUE));
    }

    // "UnsupportedOperationException: it has 4."
    private static void copyFull() {
        for (int store = 0; store < 6; store++) {
            int one = store;
            full("a fifth copy of store " + one, FULL, d -> d.copy(one, 100000, 100000));
        }
    }

    private static void copyOfSeveralFaults() {
        busy("copy(2, 6, 5): no such store, and log ahead", OUT, d -> d.copy(2, 6, 5));
        busy("copy(-1, -1, -1): no such store, and no tick", OUT, d -> d.copy(-1, -1, -1));
        full("copy(6, 0, 0): no such store, and full", OUT, d -> d.copy(6, 0, 0));
        full("copy(0, -1, 0): no tick, and full", BAD, d -> d.copy(0, -1, 0));
        full("copy(0, 0, 100001): no tick, and full", BAD, d -> d.copy(0, 0, 100001));
        full("copy(5, 6, 5): log ahead, and full", BAD, d -> d.copy(5, 6, 5));
    }

    // "IndexOutOfBoundsException: there is no such work, STORE, COPY."
    private static void tornOfNone() {
        busy("torn(2, 0)", OUT, d -> d.torn(2, 0, true));
        busy("torn(0, 2)", OUT, d -> d.torn(0, 2, true));
        busy("torn(1, 1): the copy is another store's", OUT, d -> d.torn(1, 1, true));
        full("torn(0, 4)", OUT, d -> d.torn(0, 4, true));
        full("torn(6, 0)", OUT, d -> d.torn(6, 0, true));
        for (int none : Desks.NO_NUMBERS) {
            busy("torn(" + none + ", 0)", OUT, d -> d.torn(none, 0, true));
            busy("torn(0, " + none + ")", OUT, d -> d.torn(0, none, true));
        }
        CHECK.refuses("torn of a store without copies", OUT, () -> Desks.stores(1), d -> d.torn(0, 0, false));
    }

    private static void letterOfNoStore() {
        busy("letter from 2", OUT, d -> d.letter(2, 0, 1, 0));
        busy("letter to 2", OUT, d -> d.letter(1, 0, 2, 0));
        for (int none : Desks.NO_NUMBERS) {
            busy("letter from " + none, OUT, d -> d.letter(none, 0, 1, 0));
            busy("letter to " + none, OUT, d -> d.letter(1, 0, none, 0));
        }
    }

    // "IllegalArgumentException: the STORES are one, a tick is none, or GOT is ahead of SENT".
    private static void letterWrong() {
        busy("letter from 0 to 0", BAD, d -> d.letter(0, 1, 0, 2));
        busy("letter from 1 to 1", BAD, d -> d.letter(1, 1, 1, 1));
        busy("letter sent at -1", BAD, d -> d.letter(0, -1, 1, 2));
        busy("letter sent and got at -1", BAD, d -> d.letter(0, -1, 1, -1));
        busy("letter got at 100001", BAD, d -> d.letter(0, 1, 1, 100001));
        busy("letter sent and got at 100001", BAD, d -> d.letter(0, 100001, 1, 100001));
        busy("letter got ahead of sent", BAD, d -> d.letter(0, 4, 1, 3));
        busy("letter got at 0, sent at 100000", BAD, d -> d.letter(0, 100000, 1, 0));
        busy("letter of the least and the greatest int", BAD, d -> d.letter(0, Integer.MIN_VALUE, 1, Integer.MAX_VALUE));
        busy("letter of the greatest and the least int", BAD, d -> d.letter(0, Integer.MAX_VALUE, 1, Integer.MIN_VALUE));
    }

    // "UnsupportedOperationException: there are 30."
    private static void letterFull() {
        full("letter 31", FULL, d -> d.letter(0, 0, 1, 0));
    }

    private static void letterOfSeveralFaults() {
        busy("letter from 2 to 2: no such store, and one", OUT, d -> d.letter(2, 0, 2, 0));
        busy("letter from -1 to -1: no such store, no tick, one", OUT, d -> d.letter(-1, -1, -1, -2));
        busy("letter to 2, got ahead of sent", OUT, d -> d.letter(0, 5, 2, 4));
        busy("letter from 2, sent at no tick", OUT, d -> d.letter(2, -1, 0, 4));
        full("letter 31 from 6", OUT, d -> d.letter(6, 0, 0, 0));
        full("letter 31 to 6", OUT, d -> d.letter(0, 0, 6, 0));
        full("letter 31 to itself", BAD, d -> d.letter(3, 0, 3, 0));
        full("letter 31 sent at no tick", BAD, d -> d.letter(3, -1, 4, 0));
        full("letter 31 got at no tick", BAD, d -> d.letter(3, 0, 4, 100001));
        full("letter 31 got ahead of sent", BAD, d -> d.letter(3, 1, 4, 0));
    }

    private static void changeOfNoStore() {
        busy("change(2, ..)", OUT, d -> d.change(2, 0));
        for (int none : Desks.NO_NUMBERS) {
            busy("change(" + none + ", ..)", OUT, d -> d.change(none, 0));
        }
    }

    // "IllegalArgumentException: the tick is none".
    private static void changeOutsideItsTicks() {
        for (int none : new int[] {-1, 100001, Integer.MIN_VALUE, Integer.MAX_VALUE}) {
            busy("change at " + none, BAD, d -> d.change(1, none));
        }
    }

    // "UnsupportedOperationException: there are 80."
    private static void changeFull() {
        full("change 81", FULL, d -> d.change(0, 100000));
    }

    private static void changeOfSeveralFaults() {
        busy("change(2, -1): no such store, and no tick", OUT, d -> d.change(2, -1));
        full("change(6, 0): no such store, and full", OUT, d -> d.change(6, 0));
        full("change(0, 100001): no tick, and full", BAD, d -> d.change(0, 100001));
        full("change(0, -1): no tick, and full", BAD, d -> d.change(0, -1));
    }

    private static void askedOfNoWork() {
        int[] none = {3, -1, 8, 31, 32, 33, 256, -32, Integer.MIN_VALUE, Integer.MAX_VALUE};
        for (int work : none) {
            busy("hangs(" + work + ")", OUT, d -> d.hangs(work));
            busy("steps(" + work + ", 0)", OUT, d -> d.steps(work, 0));
            busy("steps(0, " + work + ")", OUT, d -> d.steps(0, work));
            busy("steps(" + work + ", itself)", OUT, d -> d.steps(work, work));
            busy("begins(" + work + ")", OUT, d -> d.begins(work));
            quiet("begins(" + work + ")", OUT, d -> d.begins(work));
        }
        full("hangs(8)", OUT, d -> d.hangs(8));
        full("steps(8, 7)", OUT, d -> d.steps(8, 7));
        full("steps(7, 8)", OUT, d -> d.steps(7, 8));
        full("begins(8)", OUT, d -> d.begins(8));
    }

    private static void askedOfNoStore() {
        int[] none = {2, -1, 6, 32, 256, -32, Integer.MIN_VALUE, Integer.MAX_VALUE};
        for (int store : none) {
            busy("state(" + store + ")", OUT, d -> d.state(store));
            busy("lost(" + store + ")", OUT, d -> d.lost(store));
        }
        full("state(6)", OUT, d -> d.state(6));
        full("lost(6)", OUT, d -> d.lost(6));
        // Where there is no choice a STORE that is none is refused all the same.
        CHECK.refuses("state(1) without a choice", OUT, () -> Desks.stores(1), d -> d.state(1));
        CHECK.refuses("lost(1) without a choice", OUT, () -> Desks.stores(1), d -> d.lost(1));
    }

    // "with H hands (1 to 8)"; "IllegalArgumentException: H is none."
    private static void planAndNightHands() {
        for (int hands : new int[] {0, 9, -1, Integer.MIN_VALUE, Integer.MAX_VALUE}) {
            busy("plan(" + hands + ", 0)", BAD, d -> d.plan(hands, 0));
            quiet("plan(" + hands + ", -1)", BAD, d -> d.plan(hands, -1));
            busy("night(" + hands + ")", BAD, d -> d.night(hands));
            quiet("night(" + hands + ")", BAD, d -> d.night(hands));
            CHECK.refuses("plan(" + hands + ", 0) without works", BAD, DarkDesk::new, d -> d.plan(hands, 0));
            CHECK.refuses("night(" + hands + ") without works", BAD, DarkDesk::new, d -> d.night(hands));
        }
    }

    private static void nightCallsOfNoWork() {
        int[] none = {3, -1, 8, 31, 32, 33, 256, -32, Integer.MIN_VALUE, Integer.MAX_VALUE};
        for (int work : none) {
            busy("begin(" + work + ")", OUT, d -> d.begin(work, false));
            busy("begin(" + work + ", thin)", OUT, d -> d.begin(work, true));
            busy("fail(" + work + ")", OUT, d -> d.fail(work));
            busy("blow(" + work + ")", OUT, d -> d.blow(work));
            busy("look(" + work + ", 0)", OUT, d -> d.look(work, 0));
        }
        full("begin(8)", OUT, d -> d.begin(8, false));
        full("fail(8)", OUT, d -> d.fail(8));
        full("blow(8)", OUT, d -> d.blow(8));
        full("look(8, 0)", OUT, d -> d.look(8, 0));
    }

    // "IllegalStateException: there is no NIGHT".
    private static void nightCallsWithoutANight() {
        Consumer<DarkDesk> tellWork = d -> d.work(1, 1, 1, 1);
        Consumer<DarkDesk> tellNeed = d -> d.need(0, 1, true);
        without("new", Desks::quiet);
        without("ended by a work", () -> after(Desks.busy(), tellWork));
        without("ended by a need", () -> after(Desks.busy(), tellNeed));
        CHECK.refuses("tick(0) of a new desk", NO_NIGHT, DarkDesk::new, d -> d.tick(0));
        CHECK.refuses("now(0) of a new desk", NO_NIGHT, DarkDesk::new, d -> d.now(0));
    }

    private static DarkDesk after(DarkDesk desk, Consumer<DarkDesk> told) {
        told.accept(desk);
        return desk;
    }

    private static void without(String why, Supplier<DarkDesk> made) {
        CHECK.refuses("begin without a night, " + why, NO_NIGHT, made, d -> d.begin(0, false));
        CHECK.refuses("begin thin without a night, " + why, NO_NIGHT, made, d -> d.begin(1, true));
        CHECK.refuses("tick(0) without a night, " + why, NO_NIGHT, made, d -> d.tick(0));
        CHECK.refuses("tick(100) without a night, " + why, NO_NIGHT, made, d -> d.tick(100));
        CHECK.refuses("fail without a night, " + why, NO_NIGHT, made, d -> d.fail(2));
        CHECK.refuses("blow without a night, " + why, NO_NIGHT, made, d -> d.blow(0));
        for (int i = 0; i <= 3; i++) {
            int what = i;
            CHECK.refuses("look(0, " + what + ") without a night, " + why, NO_NIGHT, made, d -> d.look(0, what));
            CHECK.refuses("now(" + what + ") without a night, " + why, NO_NIGHT, made, d -> d.now(what));
        }
    }

    private static void nightCallsOfSeveralFaults() {
        quiet("begin(3): no such work", OUT, d -> d.begin(3, true));
        quiet("begin(-1): no such work", OUT, d -> d.begin(-1, false));
        quiet("fail(3): no such work", OUT, d -> d.fail(3));
        quiet("blow(3): no such work", OUT, d -> d.blow(3));
        quiet("look(3, 0): no such work", OUT, d -> d.look(3, 0));
        quiet("look(3, 3): no such work, and another what", OUT, d -> d.look(3, 3));
        quiet("look(-1, -1): no such work, and another what", OUT, d -> d.look(-1, -1));
        quiet("look(0, 3): another what", NO_NIGHT, d -> d.look(0, 3));
        quiet("look(0, -1): another what", NO_NIGHT, d -> d.look(0, -1));
        quiet("now(4): another what", NO_NIGHT, d -> d.now(4));
        quiet("now(-1): another what", NO_NIGHT, d -> d.now(-1));
        quiet("tick(-1)", NO_NIGHT, d -> d.tick(-1));
        quiet("tick(101)", NO_NIGHT, d -> d.tick(101));
        busy("look(3, 3): no such work, and another what", OUT, d -> d.look(3, 3));
        busy("look(-1, -1): no such work, and another what", OUT, d -> d.look(-1, -1));
    }

    // "IllegalArgumentException: not 0 to 100."
    private static void tickOutsideItsNumbers() {
        for (int n : new int[] {-1, 101, Integer.MIN_VALUE, Integer.MAX_VALUE}) {
            busy("tick(" + n + ")", BAD, d -> d.tick(n));
        }
    }

    // "NoSuchElementException: another what."
    private static void lookAndNowOfNothing() {
        for (int what : new int[] {-1, 3, 32, Integer.MIN_VALUE, Integer.MAX_VALUE}) {
            for (int work = 0; work < 3; work++) {
                int one = work;
                busy("look(" + one + ", " + what + ")", NO_SUCH, d -> d.look(one, what));
            }
        }
        for (int what : new int[] {-1, 4, 32, Integer.MIN_VALUE, Integer.MAX_VALUE}) {
            busy("now(" + what + ")", NO_SUCH, d -> d.now(what));
        }
    }
}

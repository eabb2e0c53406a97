/** Desks that several tests begin with; each is made anew, with well under the 512 calls that an object has. */
final class Desks {
    /** No such number of a work, STORE or COPY, whatever there is; 32 and -32 are where a shift of bits wraps round. */
    static final int[] NO_NUMBERS = {-1, 8, 31, 32, 33, 64, 256, -32, Integer.MIN_VALUE, Integer.MAX_VALUE};

    private Desks() { }

    static DarkDesk works(int n, int cost) {
        DarkDesk desk = new DarkDesk();
        for (int i = 0; i < n; i++) {
            desk.work(1, 1, 1, cost);
        }
        return desk;
    }

    static DarkDesk stores(int n) {
        DarkDesk desk = new DarkDesk();
        for (int i = 0; i < n; i++) {
            desk.store();
        }
        return desk;
    }

    /** Three works and two STORES, no PLAN and no NIGHT. */
    static DarkDesk quiet() {
        DarkDesk desk = new DarkDesk();
        desk.work(2, 2, 3, 5);
        desk.work(1, 1, 10, -1);
        desk.work(3, 2, 100, 7);
        desk.need(1, 0, false);
        desk.need(2, 1, true);
        desk.store();
        desk.store();
        desk.copy(0, 2, 9);
        desk.copy(0, 0, 1);
        desk.copy(1, 0, 4);
        desk.torn(0, 1, true);
        desk.letter(1, 5, 0, 7);
        desk.change(0, 8);
        desk.change(1, 3);
        return desk;
    }

    /** The quiet one with a PLAN, and a NIGHT in which work 0 is UP, 1 is DOWN and 2 BEGINS, THIN. */
    static DarkDesk busy() {
        DarkDesk desk = quiet();
        desk.plan(4, 0);
        desk.night(5);
        desk.begin(0, false);
        desk.tick(2);
        desk.begin(2, true);
        desk.tick(1);
        return desk;
    }

    /** As many works, NEEDS, STORES, COPIES, LETTERS and CHANGES as there can be, with a PLAN and a NIGHT. */
    static DarkDesk full() {
        DarkDesk desk = new DarkDesk();
        for (int i = 0; i < 8; i++) {
            desk.work(12, 6, 100, 1000);
        }
        for (int i = 0; i < 40; i++) {
            desk.need(1 + i % 7, 0, i % 3 == 0);
        }
        for (int i = 0; i < 6; i++) {
            desk.store();
            for (int copy = 0; copy < 4; copy++) {
                desk.copy(i, 10 * copy, 10 * copy + 5);
            }
        }
        for (int i = 0; i < 30; i++) {
            desk.letter(i % 6, i, (i + 1) % 6, i + 1);
        }
        for (int i = 0; i < 80; i++) {
            desk.change(i % 6, i);
        }
        desk.plan(8, 0);
        desk.night(8);
        desk.begin(0, false);
        desk.tick(12);
        desk.begin(1, true);
        return desk;
    }
}

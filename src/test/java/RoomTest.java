import java.lang.management.ManagementFactory;

/** All calls of a run live in one room, so a call makes no objects: all rows are made with the desk. */
public final class RoomTest {
    private static final com.sun.management.ThreadMXBean BEAN =
            (com.sun.management.ThreadMXBean) ManagementFactory.getThreadMXBean();

    public static void main(String[] args) {
        Check check = new Check();
        run();
        long before = BEAN.getCurrentThreadAllocatedBytes();
        new DarkDesk();
        long made = BEAN.getCurrentThreadAllocatedBytes() - before;
        check.same("a desk takes " + made + " bytes, 8000 at most", true, made <= 8000);
        before = BEAN.getCurrentThreadAllocatedBytes();
        run();
        long used = BEAN.getCurrentThreadAllocatedBytes() - before;
        check.same("512 calls take " + used + " bytes, hardly more than the desk", true, used <= made + 1000);
        check.end("RoomTest");
    }

    private static void run() {
        DarkDesk desk = new DarkDesk();
        for (int i = 0; i < 8; i++) {
            desk.work(1 + i * 5 % 12, 1 + i % 3, i * 13 % 17, 3);
        }
        desk.need(3, 1, true);
        desk.need(1, 3, true);
        for (int i = 0; i < 4; i++) {
            desk.store();
            desk.copy(i, 5, 50 - 10 * i);
        }
        for (int i = 0; i < 4; i++) {
            desk.letter(i, 20 + i, (i + 1) % 4, 30);
        }
        desk.night(8);
        for (int i = 0; i < 40; i++) {
            desk.plan(3 + i % 6, 2 + i);
            desk.cut();
            desk.rings(i);
            desk.hangs(i % 8);
            desk.steps(i % 8, 3);
            desk.lost(i % 4);
            desk.begin(i % 8, i % 3 == 0);
            desk.tick(3);
            desk.blow(i * 3 % 8);
            desk.look(i % 8, 1);
            desk.now(i % 4);
            desk.count(i % 8);
        }
    }
}

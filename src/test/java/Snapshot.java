/** All that a desk tells by calls that change nothing, as one text: what a refused call must leave as it was. */
final class Snapshot {
    private Snapshot() { }

    static String of(DarkDesk desk) {
        StringBuilder all = new StringBuilder("counts");
        for (int what = 0; what <= 6; what++) {
            all.append(' ').append(desk.count(what));
        }
        all.append("; rings ").append(desk.rings(0)).append(' ').append(desk.rings(-1));
        all.append("; cut ").append(desk.cut()).append("; together ").append(desk.together());
        for (int work = 0; work < desk.count(0); work++) {
            all.append("; work ").append(work).append(": ").append(desk.hangs(work)).append(' ').append(desk.begins(work));
        }
        for (int store = 0; store < desk.count(2); store++) {
            all.append("; store ").append(store).append(": ").append(desk.state(store)).append(' ').append(desk.lost(store));
        }
        if (desk.count(6) == 1) {
            ofTheNight(desk, all);
        }
        return all.toString();
    }

    private static void ofTheNight(DarkDesk desk, StringBuilder all) {
        all.append("; now");
        for (int what = 0; what <= 3; what++) {
            all.append(' ').append(desk.now(what));
        }
        for (int work = 0; work < desk.count(0); work++) {
            all.append("; look ").append(work).append(':');
            for (int what = 0; what <= 2; what++) {
                all.append(' ').append(desk.look(work, what));
            }
        }
    }
}

/** All that can be asked of a bay without changing it, as one text, so that two bays can be compared. */
final class Look {
    private final StringBuilder text = new StringBuilder();

    private Look() {
    }

    /** What modules give and count, the cords and the order. */
    static String atModules(CordBay bay) {
        Look look = new Look();
        look.modules(bay);
        return look.text.toString();
    }

    /** The same, and what there is of the latest block. */
    static String atAll(CordBay bay) {
        Look look = new Look();
        look.modules(bay);
        look.latestBlock(bay);
        return look.text.toString();
    }

    private void put(String what, long answer) {
        text.append(what).append('=').append(answer).append(' ');
    }

    private void modules(CordBay bay) {
        for (int what = 0; what <= 4; what++) {
            put("count" + what, bay.count(what));
        }
        int modules = bay.count(0);
        for (int m = 0; m < modules; m++) {
            put("order" + m, bay.order(m));
            put("in" + m + ",0", bay.from(m, 0));
            put("in" + m + ",1", bay.from(m, 1));
            put("saturations" + m, bay.count(10 + m));
            put("kind" + m, bay.row(m, 0));
            int length = bay.row(m, 1);
            put("length" + m, length);
            for (int i = 0; i < length; i++) {
                put("sample" + m + "," + i, Double.doubleToLongBits(bay.sample(m, i)));
                put("none" + m + "," + i, bay.isNone(m, i) ? 1 : 0);
            }
        }
    }

    private void latestBlock(CordBay bay) {
        for (int what = 0; what <= 2; what++) {
            put("finding" + what, bay.finding(what));
        }
        int most = 2 * bay.count(0);
        for (int i = 0; i <= most; i++) {
            put("trace" + i, bay.trace(i));
        }
    }
}

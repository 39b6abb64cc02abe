public final class P9CountTest {
    private static final Due DUE = new Due();

    public static void main(String[] args) {
        JournalDesk desk = new JournalDesk();
        Due.write(desk, 100, 0);
        desk.write();
        desk.drop(1);
        desk.write();
        Due.fill(desk, 17, 0);
        counts(desk, "with power", 17, 2, 3, 4, 1);
        desk.cut(0);
        desk.drop(0);
        counts(desk, "without power", 17, 0, 0, 4, 0);
        desk.put(1L, 8);
        counts(desk, "behind a put", 25, 0, 0, 4, 0);
        desk.start();
        counts(desk, "behind start()", 25, 2, 3, 4, 1);
        desk.write();
        counts(desk, "behind a write", 0, 3, 6, 5, 1);
        for (int what : new int[] {-1, 5, Integer.MIN_VALUE, Integer.MAX_VALUE}) {
            DUE.is("count(" + what + ")", desk.count(what), -1);
        }
        Due.powerOff(desk);
        DUE.is("count(5) without power", desk.count(5), -1);
        DUE.end();
    }

    private static void counts(JournalDesk desk, String when, int... due) {
        for (int what = 0; what < due.length; what++) {
            DUE.is("count(" + what + ") " + when, desk.count(what), due[what]);
        }
    }
}

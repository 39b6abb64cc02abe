public final class P9CountTest {
    private static final Due DUE = new Due();

    public static void main(String[] args) {
        DUE.test("9: 0 bytes of the tape", P9CountTest::tape);
        DUE.test("9: 1 records that are there", P9CountTest::records);
        DUE.test("9: 2 sectors of kept entries", P9CountTest::sectors);
        DUE.test("9: 3 entries that were whole in all", P9CountTest::entries);
        DUE.test("9: 4 whether there is power (1)", P9CountTest::power);
        DUE.test("9: without power 1 and 2 are 0", P9CountTest::withoutPower);
        DUE.test("9: -1 for another what", P9CountTest::anotherWhat);
        DUE.end();
    }

    private static void tape() {
        JournalDesk desk = new JournalDesk();
        for (int bytes = 1; bytes <= 100; bytes++) {
            desk.put(1L, 1);
            DUE.is("count(0)", desk.count(0), bytes);
        }
        desk.put(1L, 1);
        DUE.is("count(0) of a full tape", desk.count(0), 100);
        desk.write();
        DUE.is("count(0) behind write()", desk.count(0), 0);
    }

    private static void records() {
        JournalDesk desk = new JournalDesk();
        for (int records = 1; records <= 39; records++) {
            desk.write();
            DUE.is("count(1)", desk.count(1), records);
        }
        desk.drop(0);
        DUE.is("count(1) behind drop(0)", desk.count(1), 39);
        desk.write();
        DUE.is("count(1) behind a refused write", desk.count(1), 39);

        JournalDesk dropped = new JournalDesk();
        Due.writeEmpty(dropped, 39);
        dropped.drop(38);
        DUE.is("count(1) behind drop(38)", dropped.count(1), 1);
        dropped.drop(1);
        DUE.is("count(1) behind drop(1)", dropped.count(1), 0);
    }

    private static void sectors() {
        JournalDesk desk = new JournalDesk();
        Due.write(desk, 100, 0);
        desk.write();
        DUE.is("count(2)", desk.count(2), 10);
        desk.drop(1);
        DUE.is("count(2) behind drop(1)", desk.count(2), 2);
        desk.write();
        DUE.is("count(2) behind write()", desk.count(2), 3);
        desk.drop(2);
        DUE.is("count(2) if none is left", desk.count(2), 1);
    }

    private static void entries() {
        JournalDesk desk = new JournalDesk();
        desk.drop(0);
        DUE.is("count(3) behind a drop", desk.count(3), 1);
        Due.write(desk, 100, 0);
        DUE.is("count(3) behind a write", desk.count(3), 2);
        desk.drop(1);
        DUE.is("those that went are in it", desk.count(3), 3);
        desk.drop(1);
        DUE.is("refused ones are not", desk.count(3), 3);
        desk.cut(0);
        desk.write();
        DUE.is("cut ones are not, without power", desk.count(3), 3);
        desk.start();
        DUE.is("nor behind start()", desk.count(3), 3);
    }

    private static void power() {
        JournalDesk desk = new JournalDesk();
        desk.cut(0);
        DUE.is("count(4)", desk.count(4), 1);
        desk.write();
        DUE.is("count(4) behind a cut", desk.count(4), 0);
        desk.start();
        DUE.is("count(4) behind start()", desk.count(4), 1);
    }

    private static void withoutPower() {
        JournalDesk desk = new JournalDesk();
        Due.write(desk, 100, 0);
        desk.write();
        desk.drop(1);
        Due.fill(desk, 17, 0);
        counts(desk, "with power", 17, 1, 2, 3, 1);
        desk.cut(0);
        desk.drop(0);
        counts(desk, "without power", 17, 0, 0, 3, 0);
        desk.put(1L, 8);
        counts(desk, "behind a put", 25, 0, 0, 3, 0);
        desk.start();
        counts(desk, "behind start()", 25, 1, 2, 3, 1);
    }

    private static void anotherWhat() {
        JournalDesk desk = new JournalDesk();
        desk.write();
        for (int what : new int[] {-1, 5, 6, 256, Integer.MIN_VALUE, Integer.MAX_VALUE}) {
            DUE.is("count(" + what + ")", desk.count(what), -1);
        }
        Due.powerOff(desk);
        DUE.is("count(-1) without power", desk.count(-1), -1);
        DUE.is("count(5) without power", desk.count(5), -1);
    }

    private static void counts(JournalDesk desk, String when, int... due) {
        for (int what = 0; what < due.length; what++) {
            DUE.is("count(" + what + ") " + when, desk.count(what), due[what]);
        }
    }
}

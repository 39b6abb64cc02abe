public final class P4DropTest {
    private static final Due DUE = new Due();

    public static void main(String[] args) {
        DUE.test("4: The oldest many records go: how many are left", P4DropTest::oldestGo);
        DUE.test("4: all go", P4DropTest::allGo);
        DUE.test("4: -2 if it is cut", P4DropTest::cut);
        DUE.test("4: if it is cut, none goes", P4DropTest::noneGoesIfCut);
        DUE.test("4: a drop, whole or cut, leaves the tape", P4DropTest::leavesTheTape);
        DUE.test("4: -1, refused, without power", P4DropTest::withoutPower);
        DUE.test("4: -1, refused, without room", P4DropTest::withoutRoom);
        DUE.test("4: the last sector is room enough", P4DropTest::lastSector);
        DUE.test("4: -1, refused, if there are not as many", P4DropTest::notAsMany);
        DUE.test("4: -1, refused, if many is below 0", P4DropTest::belowZero);
        DUE.test("4: 0 is fine", P4DropTest::zero);
        DUE.test("4: 0 is fine, if there are none too", P4DropTest::zeroOfNone);
        DUE.end();
    }

    private static JournalDesk fiveRecords() {
        JournalDesk desk = new JournalDesk();
        for (int at = 0; at < 5; at++) {
            Due.write(desk, at, 10 * at);
        }
        return desk;
    }

    private static void oldestGo() {
        for (int many = 1; many < 5; many++) {
            JournalDesk desk = fiveRecords();
            DUE.is("drop(" + many + ")", desk.drop(many), 5 - many);
            DUE.is("count(1)", desk.count(1), 5 - many);
            for (int i = 0; i < 5 - many; i++) {
                DUE.is("record(" + i + ", 1)", desk.record(i, 1), i + many);
                DUE.holds("behind drop(" + many + ")", desk, i, i + many, 10 * (i + many));
            }
            DUE.is("record behind the last", desk.record(5 - many, 1), -1);
        }
    }

    private static void allGo() {
        JournalDesk desk = fiveRecords();
        DUE.is("drop(5) of 5", desk.drop(5), 0);
        DUE.is("count(1)", desk.count(1), 0);
        DUE.is("record(0, 1)", desk.record(0, 1), -1);
        DUE.is("count(3)", desk.count(3), 6);
    }

    private static void cut() {
        for (int behind = 0; behind <= 8; behind++) {
            for (int many = 0; many <= 5; many++) {
                JournalDesk desk = fiveRecords();
                desk.cut(behind);
                DUE.is("drop(" + many + ") cut behind " + behind, desk.drop(many), -2);
                DUE.is("count(3)", desk.count(3), 5);
            }
        }
    }

    private static void noneGoesIfCut() {
        for (int many = 0; many <= 5; many++) {
            JournalDesk desk = fiveRecords();
            desk.cut(0);
            desk.drop(many);
            DUE.is("start()", desk.start(), 5);
            DUE.same("behind a drop(" + many + ") that was cut", desk, fiveRecords());
            DUE.is("drop(5)", desk.drop(5), 0);
        }
    }

    private static void leavesTheTape() {
        JournalDesk desk = fiveRecords();
        Due.fill(desk, 30, 9);
        desk.drop(1);
        DUE.is("count(0) behind a drop", desk.count(0), 30);
        desk.cut(0);
        desk.drop(1);
        DUE.is("count(0) behind a cut drop", desk.count(0), 30);
        desk.start();
        desk.write();
        DUE.holds("behind both", desk, 4, 30, 9);
    }

    private static void withoutPower() {
        JournalDesk desk = fiveRecords();
        Due.powerOff(desk);
        for (int many = -1; many <= 6; many++) {
            DUE.is("drop(" + many + ") without power", desk.drop(many), -1);
        }
        DUE.is("count(3)", desk.count(3), 5);
        desk.start();
        DUE.same("behind drops without power", desk, fiveRecords());
    }

    private static void withoutRoom() {
        JournalDesk desk = new JournalDesk();
        Due.writeEmpty(desk, 40);
        for (int many : new int[] {0, 1, 39, 40}) {
            DUE.is("drop(" + many + ") without room", desk.drop(many), -1);
        }
        DUE.is("count(1)", desk.count(1), 40);
        DUE.is("count(2)", desk.count(2), 40);
        DUE.is("count(3)", desk.count(3), 40);
    }

    private static void lastSector() {
        for (int many = 0; many <= 39; many++) {
            JournalDesk desk = new JournalDesk();
            Due.writeEmpty(desk, 39);
            DUE.is("drop(" + many + ") in the last sector", desk.drop(many), 39 - many);
            DUE.is("count(2)", desk.count(2), 40 - many);
        }
    }

    private static void notAsMany() {
        JournalDesk none = new JournalDesk();
        DUE.is("drop(1) of none", none.drop(1), -1);
        JournalDesk desk = fiveRecords();
        for (int many : new int[] {6, 7, 40, 261, Integer.MAX_VALUE}) {
            DUE.is("drop(" + many + ") of 5", desk.drop(many), -1);
        }
        DUE.same("behind drops of too many", desk, fiveRecords());
        desk.drop(2);
        DUE.is("those that went are not there: drop(4) of 3", desk.drop(4), -1);
        desk.drop(0);
        DUE.is("drops are no records: drop(4) of 3", desk.drop(4), -1);
        DUE.is("drop(3) of 3", desk.drop(3), 0);
    }

    private static void belowZero() {
        JournalDesk desk = fiveRecords();
        for (int many : new int[] {-1, -5, Integer.MIN_VALUE}) {
            DUE.is("drop(" + many + ")", desk.drop(many), -1);
        }
        DUE.same("behind drops below 0", desk, fiveRecords());
    }

    private static void zero() {
        JournalDesk desk = fiveRecords();
        DUE.is("drop(0)", desk.drop(0), 5);
        DUE.is("record(0, 1)", desk.record(0, 1), 0);
        DUE.is("count(2)", desk.count(2), 6);
        DUE.is("count(3)", desk.count(3), 6);
    }

    private static void zeroOfNone() {
        JournalDesk desk = new JournalDesk();
        DUE.is("a first drop(0)", desk.drop(0), 0);
        DUE.is("count(2)", desk.count(2), 1);
        DUE.is("count(3)", desk.count(3), 1);
        JournalDesk gone = fiveRecords();
        gone.drop(5);
        DUE.is("drop(0) when all went", gone.drop(0), 0);
        DUE.is("count(2)", gone.count(2), 1);
    }
}

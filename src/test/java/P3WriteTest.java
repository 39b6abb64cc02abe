public final class P3WriteTest {
    private static final Due DUE = new Due();

    public static void main(String[] args) {
        DUE.test("3: The tape is a record: its number", P3WriteTest::numbers);
        DUE.test("3: an empty tape is a record too", P3WriteTest::emptyTape);
        DUE.test("3: a full tape is a record", P3WriteTest::fullTape);
        DUE.test("3: The tape (empty then)", P3WriteTest::tapeIsEmptyThen);
        DUE.test("3: The tape (empty then, also if it is cut)", P3WriteTest::tapeIsEmptyIfCut);
        DUE.test("3: -2 if it is cut", P3WriteTest::cut);
        DUE.test("3: -1, refused, without power", P3WriteTest::withoutPower);
        DUE.test("3: -1, refused, without room", P3WriteTest::withoutRoom);
        DUE.test("3: room comes again behind a drop", P3WriteTest::roomAgain);
        DUE.end();
    }

    private static void numbers() {
        JournalDesk desk = new JournalDesk();
        for (int number = 0; number < 5; number++) {
            DUE.is("write()", Due.write(desk, 3 * number, 40), number);
            DUE.holds("of it", desk, number, 3 * number, 40);
        }
    }

    private static void emptyTape() {
        JournalDesk desk = new JournalDesk();
        DUE.is("write() of an empty tape", desk.write(), 0);
        DUE.is("count(1)", desk.count(1), 1);
        DUE.is("count(2)", desk.count(2), 1);
        DUE.is("count(3)", desk.count(3), 1);
        DUE.holds("of it", desk, 0, 0, 0);
    }

    private static void fullTape() {
        JournalDesk desk = new JournalDesk();
        DUE.is("write() of a full tape", Due.write(desk, 100, 77), 0);
        DUE.holds("of it", desk, 0, 100, 77);
    }

    private static void tapeIsEmptyThen() {
        JournalDesk desk = new JournalDesk();
        Due.write(desk, 100, 1);
        DUE.is("count(0)", desk.count(0), 0);
        desk.write();
        DUE.is("the next record's bytes", desk.record(1, 0), 0);
        DUE.is("the next record's bytes(1, 0)", desk.bytes(1, 0), 0);
    }

    private static void tapeIsEmptyIfCut() {
        JournalDesk desk = new JournalDesk();
        Due.fill(desk, 100, 1);
        desk.cut(8);
        desk.write();
        DUE.is("count(0) without power", desk.count(0), 0);
        desk.start();
        DUE.is("count(0) behind start()", desk.count(0), 0);
        desk.write();
        DUE.is("the next record's bytes", desk.record(0, 0), 0);
    }

    private static void cut() {
        for (int behind = 0; behind <= 8; behind++) {
            for (int length : new int[] {0, 12, 13, 100}) {
                JournalDesk desk = new JournalDesk();
                Due.write(desk, 20, 1);
                desk.cut(behind);
                DUE.is("write() of " + length + " cut behind " + behind, Due.write(desk, length, 50), -2);
                DUE.is("count(3)", desk.count(3), 1);
                desk.start();
                DUE.is("count(1) behind start()", desk.count(1), 1);
            }
        }
    }

    private static void withoutPower() {
        JournalDesk desk = new JournalDesk();
        Due.powerOff(desk);
        DUE.is("write() of an empty tape without power", desk.write(), -1);
        Due.fill(desk, 30, 4);
        DUE.is("write() without power", desk.write(), -1);
        DUE.is("it keeps the tape", desk.count(0), 30);
        DUE.is("it is no entry", desk.count(3), 0);
        desk.start();
        DUE.is("write() behind start()", desk.write(), 0);
        DUE.holds("behind start()", desk, 0, 30, 4);
    }

    private static void withoutRoom() {
        JournalDesk desk = new JournalDesk();
        Due.writeEmpty(desk, 36);
        Due.fill(desk, 49, 3);
        DUE.is("36 sectors and 5", desk.write(), -1);
        DUE.is("it keeps the tape", desk.count(0), 49);
        DUE.is("it takes no sectors", desk.count(2), 36);
        DUE.is("it is no entry", desk.count(3), 36);
        desk.drop(2);
        DUE.is("35 sectors and 5, the number was not used", desk.write(), 36);
        DUE.holds("behind a refused write", desk, 34, 49, 3);
    }

    private static void roomAgain() {
        JournalDesk desk = new JournalDesk();
        Due.writeEmpty(desk, 39);
        desk.drop(1);
        DUE.is("write() in the sector that was given back", desk.write(), 39);
        DUE.is("count(2)", desk.count(2), 40);
        DUE.is("write() on a full disk", desk.write(), -1);
    }
}

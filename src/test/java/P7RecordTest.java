public final class P7RecordTest {
    private static final Due DUE = new Due();
    private static final int[] LENGTHS = {0, 1, 12, 13, 99, 100};

    public static void main(String[] args) {
        DUE.test("7: 0 how many bytes", P7RecordTest::howManyBytes);
        DUE.test("7: 1 its number", P7RecordTest::itsNumber);
        DUE.test("7: of the i-th that is there (0 the oldest)", P7RecordTest::oldestIsFirst);
        DUE.test("7: -1 if there is none: i too small", P7RecordTest::tooSmall);
        DUE.test("7: -1 if there is none: i too large", P7RecordTest::tooLarge);
        DUE.test("7: -1 if there is none: an empty journal", P7RecordTest::empty);
        DUE.test("7: -1 for another what", P7RecordTest::anotherWhat);
        DUE.test("7: -1 without power", P7RecordTest::withoutPower);
        DUE.end();
    }

    /** Each record has a drop behind it, which is none. */
    private static JournalDesk records() {
        JournalDesk desk = new JournalDesk();
        for (int length : LENGTHS) {
            Due.write(desk, length, 0);
            desk.drop(0);
        }
        return desk;
    }

    private static void howManyBytes() {
        JournalDesk desk = records();
        for (int i = 0; i < LENGTHS.length; i++) {
            DUE.is("record(" + i + ", 0)", desk.record(i, 0), LENGTHS[i]);
        }
    }

    private static void itsNumber() {
        JournalDesk desk = records();
        for (int i = 0; i < LENGTHS.length; i++) {
            DUE.is("record(" + i + ", 1)", desk.record(i, 1), i);
        }
    }

    private static void oldestIsFirst() {
        JournalDesk desk = records();
        for (int gone = 1; gone < LENGTHS.length; gone++) {
            desk.drop(1);
            DUE.is("record(0, 0) behind " + gone, desk.record(0, 0), LENGTHS[gone]);
            DUE.is("record(0, 1) behind " + gone, desk.record(0, 1), gone);
            int last = LENGTHS.length - 1;
            DUE.is("the last behind " + gone, desk.record(last - gone, 1), last);
        }
    }

    private static void tooSmall() {
        for (int i : new int[] {-1, -6, -40, Integer.MIN_VALUE}) {
            isNone(records(), i);
        }
    }

    private static void tooLarge() {
        for (int i : new int[] {LENGTHS.length, 39, 40, 256, Integer.MAX_VALUE}) {
            isNone(records(), i);
        }
        JournalDesk full = new JournalDesk();
        Due.writeEmpty(full, 40);
        DUE.is("record(39, 1)", full.record(39, 1), 39);
        isNone(full, 40);
    }

    private static void empty() {
        isNone(new JournalDesk(), 0);
        JournalDesk desk = records();
        desk.drop(LENGTHS.length);
        isNone(desk, 0);
        JournalDesk drops = Due.turned(3);
        isNone(drops, 0);
    }

    private static void isNone(JournalDesk desk, int i) {
        DUE.is("record(" + i + ", 0)", desk.record(i, 0), -1);
        DUE.is("record(" + i + ", 1)", desk.record(i, 1), -1);
    }

    private static void anotherWhat() {
        JournalDesk desk = records();
        for (int what : new int[] {-1, 2, 3, 256, Integer.MIN_VALUE, Integer.MAX_VALUE}) {
            DUE.is("record(0, " + what + ")", desk.record(0, what), -1);
            DUE.is("record(5, " + what + ")", desk.record(5, what), -1);
            DUE.is("record(6, " + what + ")", desk.record(6, what), -1);
        }
    }

    private static void withoutPower() {
        JournalDesk desk = records();
        Due.powerOff(desk);
        for (int i = -1; i <= LENGTHS.length; i++) {
            isNone(desk, i);
            DUE.is("record(" + i + ", 2)", desk.record(i, 2), -1);
        }
        desk.start();
        DUE.is("record(5, 0) behind start()", desk.record(5, 0), 100);
        DUE.is("record(5, 1) behind start()", desk.record(5, 1), 5);
    }
}

public final class P8BytesTest {
    private static final Due DUE = new Due();

    public static void main(String[] args) {
        DUE.test("8: Eight bytes from byte k on, the first one highest", P8BytesTest::everyPlaceOfEveryLength);
        DUE.test("8: 0 behind its end: a record is followed by another", P8BytesTest::notTheNextRecord);
        DUE.test("8: 0 behind its end: where a longer one stood", P8BytesTest::notAnOlderRecord);
        DUE.test("8: 0 behind its end: k is far behind it", P8BytesTest::farBehind);
        DUE.test("8: 0 behind its end: an empty record", P8BytesTest::emptyRecord);
        DUE.test("8: -1 if there is none", P8BytesTest::none);
        DUE.test("8: -1 if k is below 0", P8BytesTest::belowZero);
        DUE.test("8: without power there is none", P8BytesTest::withoutPower);
        DUE.end();
    }

    private static void everyPlaceOfEveryLength() {
        for (int length = 0; length <= 100; length++) {
            JournalDesk desk = new JournalDesk();
            Due.write(desk, length, 130);
            for (int k = 0; k <= 110; k++) {
                DUE.is("bytes(0, " + k + ") of " + length, desk.bytes(0, k), Due.eight(length, 130, k));
            }
        }
    }

    private static void notTheNextRecord() {
        for (int length = 0; length <= 36; length++) {
            JournalDesk desk = new JournalDesk();
            Due.write(desk, length, 130);
            Due.write(desk, 40, 1);
            for (int k = 0; k <= 50; k++) {
                DUE.is("bytes(0, " + k + ") of " + length, desk.bytes(0, k), Due.eight(length, 130, k));
            }
        }
    }

    /** Round the ring, short records come to stand where long ones were. */
    private static void notAnOlderRecord() {
        JournalDesk desk = new JournalDesk();
        for (int round = 0; round < 40; round++) {
            desk.put(-1L, 8);
            desk.put(-1L, 8);
            desk.put(-1L, 8);
            desk.write();
            desk.drop(1);
            desk.put(3L, 1);
            desk.write();
            DUE.is("bytes(0, 0)", desk.bytes(0, 0), 3L << 56);
            DUE.is("bytes(0, 1)", desk.bytes(0, 1), 0);
            desk.drop(1);
            // Six sectors a round, so that the places of long and short ones come to meet.
            desk.drop(0);
        }
    }

    private static void farBehind() {
        JournalDesk desk = new JournalDesk();
        Due.write(desk, 100, 1);
        DUE.is("bytes(0, 99)", desk.bytes(0, 99), 100L << 56);
        for (int k : new int[] {100, 101, 480, 481, 65536, Integer.MAX_VALUE - 7, Integer.MAX_VALUE}) {
            DUE.is("bytes(0, " + k + ")", desk.bytes(0, k), 0);
        }
    }

    private static void emptyRecord() {
        JournalDesk desk = new JournalDesk();
        desk.write();
        Due.write(desk, 20, 1);
        for (int k : new int[] {0, 1, 12, Integer.MAX_VALUE}) {
            DUE.is("bytes(0, " + k + ")", desk.bytes(0, k), 0);
        }
    }

    private static void none() {
        DUE.is("bytes(0, 0) of a new object", new JournalDesk().bytes(0, 0), -1);
        JournalDesk desk = new JournalDesk();
        Due.write(desk, 100, 1);
        desk.drop(0);
        for (int i : new int[] {-1, 1, 2, 39, 40, Integer.MIN_VALUE, Integer.MAX_VALUE}) {
            for (int k : new int[] {-1, 0, 8, 100, Integer.MAX_VALUE}) {
                DUE.is("bytes(" + i + ", " + k + ")", desk.bytes(i, k), -1);
            }
        }
        desk.drop(1);
        DUE.is("bytes(0, 0) of none left", desk.bytes(0, 0), -1);
    }

    private static void belowZero() {
        JournalDesk desk = new JournalDesk();
        Due.write(desk, 50, 1);
        Due.write(desk, 50, 1);
        for (int k : new int[] {-1, -7, -8, -12, Integer.MIN_VALUE}) {
            DUE.is("bytes(0, " + k + ")", desk.bytes(0, k), -1);
            DUE.is("bytes(1, " + k + ")", desk.bytes(1, k), -1);
        }
    }

    private static void withoutPower() {
        JournalDesk desk = new JournalDesk();
        Due.write(desk, 100, 1);
        Due.powerOff(desk);
        for (int k : new int[] {-1, 0, 99, 100}) {
            DUE.is("bytes(0, " + k + ") without power", desk.bytes(0, k), -1);
        }
        desk.start();
        DUE.holds("behind start()", desk, 0, 100, 1);
    }
}

public final class P2PutTest {
    private static final Due DUE = new Due();

    public static void main(String[] args) {
        DUE.test("2: The lowest n bytes of v, the highest of them first", P2PutTest::lowestBytesHighestFirst);
        DUE.test("2: come behind the tape", P2PutTest::oneBehindTheOther);
        DUE.test("2: n of 1 .. 8 is true", P2PutTest::everyLength);
        DUE.test("2: false if n is not 1 .. 8: too small", P2PutTest::tooSmall);
        DUE.test("2: false if n is not 1 .. 8: too large", P2PutTest::tooLarge);
        DUE.test("2: true if there are 100 then", P2PutTest::justFull);
        DUE.test("2: false if there would be more than 100", P2PutTest::moreThanFull);
        DUE.test("2: a full tape", P2PutTest::fullTape);
        DUE.test("2: a tape that was written takes 100 again", P2PutTest::fullAgain);
        DUE.test("2: power is not asked for", P2PutTest::withoutPower);
        DUE.end();
    }

    private static void lowestBytesHighestFirst() {
        for (long v : new long[] {0xF1E2D3C4B5A69788L, 0L, -1L, Long.MIN_VALUE, Long.MAX_VALUE}) {
            for (int n = 1; n <= 8; n++) {
                JournalDesk desk = new JournalDesk();
                desk.put(v, n);
                desk.write();
                DUE.is("bytes(0, 0) of " + n, desk.bytes(0, 0), v << (64 - 8 * n));
            }
        }
    }

    private static void oneBehindTheOther() {
        JournalDesk desk = new JournalDesk();
        desk.put(0x0102L, 2);
        desk.put(0x030405L, 3);
        desk.put(-1L, 1);
        desk.write();
        DUE.is("bytes(0, 0)", desk.bytes(0, 0), 0x0102030405FF0000L);
    }

    private static void everyLength() {
        for (int n = 1; n <= 8; n++) {
            JournalDesk desk = new JournalDesk();
            DUE.is("put(5, " + n + ")", desk.put(5L, n), true);
            DUE.is("count(0)", desk.count(0), n);
        }
    }

    private static void tooSmall() {
        for (int n : new int[] {0, -1, -8, -100, Integer.MIN_VALUE}) {
            refuses(n);
        }
    }

    private static void tooLarge() {
        for (int n : new int[] {9, 16, 100, 257, Integer.MAX_VALUE}) {
            refuses(n);
        }
    }

    private static void refuses(int n) {
        JournalDesk desk = new JournalDesk();
        DUE.is("put(1, " + n + ")", desk.put(1L, n), false);
        DUE.is("count(0)", desk.count(0), 0);
        desk.put(5L, 1);
        DUE.is("put(1, " + n + ") behind a byte", desk.put(1L, n), false);
        DUE.is("count(0)", desk.count(0), 1);
    }

    private static void justFull() {
        for (int n = 1; n <= 8; n++) {
            JournalDesk desk = new JournalDesk();
            Due.fill(desk, 100 - n, 0);
            DUE.is(100 - n + " bytes and " + n, desk.put(-1L, n), true);
            DUE.is("count(0)", desk.count(0), 100);
            desk.write();
            DUE.is("the last eight bytes", desk.bytes(0, 100 - n), -1L << (64 - 8 * n));
        }
    }

    private static void moreThanFull() {
        for (int n = 1; n <= 8; n++) {
            JournalDesk desk = new JournalDesk();
            Due.fill(desk, 101 - n, 0);
            DUE.is(101 - n + " bytes and " + n, desk.put(-1L, n), false);
            DUE.is("count(0)", desk.count(0), 101 - n);
            desk.write();
            DUE.holds("behind a put that was refused", desk, 0, 101 - n, 0);
        }
    }

    private static void fullTape() {
        JournalDesk desk = new JournalDesk();
        Due.fill(desk, 100, 0);
        for (int n = 0; n <= 9; n++) {
            DUE.is("100 bytes and " + n, desk.put(1L, n), false);
        }
        DUE.is("count(0)", desk.count(0), 100);
    }

    private static void fullAgain() {
        JournalDesk desk = new JournalDesk();
        Due.write(desk, 100, 0);
        Due.fill(desk, 100, 50);
        DUE.is("count(0) behind a write", desk.count(0), 100);
        Due.powerOff(desk);
        Due.fill(desk, 100, 90);
        DUE.is("count(0) behind a write that was cut", desk.count(0), 100);
        DUE.is("and one more", desk.put(1L, 1), false);
    }

    private static void withoutPower() {
        JournalDesk desk = new JournalDesk();
        Due.powerOff(desk);
        DUE.is("put without power", desk.put(7L, 2), true);
        DUE.is("count(0) without power", desk.count(0), 2);
        DUE.is("put(7, 9) without power", desk.put(7L, 9), false);
        desk.start();
        DUE.is("the tape behind start", desk.count(0), 2);
        desk.write();
        DUE.is("bytes(0, 0)", desk.bytes(0, 0), 7L << 48);
    }
}

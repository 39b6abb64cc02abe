public final class P2PutTest {
    private static final Due DUE = new Due();

    public static void main(String[] args) {
        lowestBytesHighestFirst();
        wrongLengths();
        fullTape();
        withoutPower();
        DUE.end();
    }

    private static void lowestBytesHighestFirst() {
        long v = 0xF1E2D3C4B5A69788L;
        for (int n = 1; n <= 8; n++) {
            JournalDesk desk = new JournalDesk();
            DUE.is("put(v, " + n + ")", desk.put(v, n), true);
            DUE.is("count(0) behind put(v, " + n + ")", desk.count(0), n);
            desk.write();
            DUE.is("bytes(0, 0) of " + n, desk.bytes(0, 0), v << (64 - 8 * n));
        }
        JournalDesk desk = new JournalDesk();
        desk.put(0x0102L, 2);
        desk.put(0x030405L, 3);
        desk.put(-1L, 1);
        desk.write();
        DUE.is("puts stand one behind the other", desk.bytes(0, 0), 0x0102030405FF0000L);
    }

    private static void wrongLengths() {
        JournalDesk desk = new JournalDesk();
        desk.put(5L, 1);
        for (int n : new int[] {0, -1, 9, 100, Integer.MIN_VALUE, Integer.MAX_VALUE}) {
            DUE.is("put(1, " + n + ")", desk.put(1L, n), false);
            DUE.is("count(0) behind put(1, " + n + ")", desk.count(0), 1);
        }
    }

    private static void fullTape() {
        JournalDesk desk = new JournalDesk();
        Due.fill(desk, 97, 0);
        DUE.is("97 bytes and 4", desk.put(1L, 4), false);
        DUE.is("a put that is refused changes nothing", desk.count(0), 97);
        DUE.is("97 bytes and 3", desk.put(1L, 3), true);
        DUE.is("a full tape", desk.count(0), 100);
        DUE.is("100 bytes and 1", desk.put(1L, 1), false);
        DUE.is("write() of a full tape", desk.write(), 0);
        DUE.is("put behind the write", desk.put(1L, 8), true);
        DUE.is("bytes(0, 92)", desk.bytes(0, 92), 0x5C5D5E5F60000001L);
    }

    private static void withoutPower() {
        JournalDesk desk = new JournalDesk();
        Due.powerOff(desk);
        DUE.is("put without power", desk.put(7L, 2), true);
        DUE.is("count(0) without power", desk.count(0), 2);
        desk.start();
        DUE.is("the tape behind start", desk.count(0), 2);
    }
}

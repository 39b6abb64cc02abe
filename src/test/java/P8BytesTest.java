public final class P8BytesTest {
    private static final Due DUE = new Due();

    public static void main(String[] args) {
        everyPlaceOfEveryLength();
        staleBytesNeverShow();
        wrongInputs();
        DUE.end();
    }

    private static void everyPlaceOfEveryLength() {
        for (int length = 0; length <= 100; length++) {
            JournalDesk desk = new JournalDesk();
            desk.write();
            Due.write(desk, length, 130);
            desk.drop(1);
            Due.write(desk, 8, 1);
            for (int k = 0; k <= 110; k++) {
                DUE.is("bytes(0, " + k + ") of " + length, desk.bytes(0, k), due(length, k));
            }
        }
    }

    private static long due(int length, int k) {
        long eight = 0;
        for (int at = k; at < k + 8; at++) {
            eight = eight * 256 + (at < length ? (130 + at) % 256 : 0);
        }
        return eight;
    }

    /** Round the ring, short records come to stand where long ones were. */
    private static void staleBytesNeverShow() {
        JournalDesk desk = new JournalDesk();
        for (int round = 0; round < 40; round++) {
            desk.put(-1L, 8);
            desk.put(-1L, 8);
            desk.put(-1L, 8);
            desk.write();
            desk.drop(1);
            desk.put(3L, 1);
            desk.write();
            DUE.is("bytes(0, 0)", desk.bytes(0, 0), 3L << 56);
            DUE.is("bytes(0, 1)", desk.bytes(0, 1), 0);
            desk.drop(1);
            // Six sectors a round, so that the places of long and short ones come to meet.
            desk.drop(0);
        }
    }

    private static void wrongInputs() {
        JournalDesk desk = new JournalDesk();
        Due.write(desk, 100, 1);
        for (int k : new int[] {-1, -8, Integer.MIN_VALUE}) {
            DUE.is("bytes(0, " + k + ")", desk.bytes(0, k), -1);
        }
        for (int i : new int[] {-1, 1, 40, Integer.MIN_VALUE, Integer.MAX_VALUE}) {
            DUE.is("bytes(" + i + ", 0)", desk.bytes(i, 0), -1);
        }
        for (int k : new int[] {100, 480, Integer.MAX_VALUE - 7, Integer.MAX_VALUE}) {
            DUE.is("bytes(0, " + k + ")", desk.bytes(0, k), 0);
        }
        Due.powerOff(desk);
        DUE.is("bytes(0, 0) without power", desk.bytes(0, 0), -1);
        DUE.is("bytes(0, 100) without power", desk.bytes(0, 100), -1);
        desk.start();
        DUE.is("bytes(0, 0) behind start()", desk.bytes(0, 0), 0x0102030405060708L);
    }
}

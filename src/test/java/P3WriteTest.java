public final class P3WriteTest {
    private static final Due DUE = new Due();

    public static void main(String[] args) {
        numbersAndTape();
        sectorsOfEachLength();
        room();
        ownNumbersBehindDrops();
        cutWrite();
        DUE.end();
    }

    private static void numbersAndTape() {
        JournalDesk desk = new JournalDesk();
        DUE.is("write() of an empty tape", desk.write(), 0);
        DUE.is("write() of 3", Due.write(desk, 3, 1), 1);
        DUE.is("the tape is empty then", desk.count(0), 0);
        DUE.is("write()", desk.write(), 2);
        DUE.is("record(0, 0)", desk.record(0, 0), 0);
        DUE.is("record(1, 0)", desk.record(1, 0), 3);
        DUE.is("record(2, 0)", desk.record(2, 0), 0);
    }

    private static void sectorsOfEachLength() {
        for (int length = 0; length <= 100; length++) {
            JournalDesk desk = new JournalDesk();
            Due.write(desk, length, 0);
            int sectors = 1;
            for (int begun = 12; begun < length; begun += 12) {
                sectors++;
            }
            DUE.is("sectors of " + length + " bytes", desk.count(2), sectors);
        }
    }

    private static void room() {
        JournalDesk desk = new JournalDesk();
        for (int at = 0; at < 4; at++) {
            Due.write(desk, 100, at);
        }
        Due.fill(desk, 49, 0);
        DUE.is("36 sectors and 5", desk.write(), -1);
        DUE.is("a refused write keeps the tape", desk.count(0), 49);
        DUE.is("and is no entry", desk.count(3), 4);
        DUE.is("and takes no sectors", desk.count(2), 36);

        JournalDesk full = new JournalDesk();
        for (int at = 0; at < 4; at++) {
            Due.write(full, 100, at);
        }
        DUE.is("36 sectors and 4", Due.write(full, 48, 9), 4);
        DUE.is("a full disk", full.count(2), 40);
        DUE.is("40 sectors and 1", full.write(), -1);

        JournalDesk many = new JournalDesk();
        Due.writeEmpty(many, 40);
        DUE.is("the 41st sector", many.write(), -1);
        DUE.is("record(39, 1)", many.record(39, 1), 39);
    }

    private static void ownNumbersBehindDrops() {
        JournalDesk desk = new JournalDesk();
        Due.writeEmpty(desk, 3);
        desk.drop(3);
        DUE.is("a number isn't used again behind a drop", desk.write(), 3);
    }

    private static void cutWrite() {
        for (int behind = 0; behind <= 8; behind++) {
            JournalDesk desk = new JournalDesk();
            Due.write(desk, 20, 1);
            desk.cut(behind);
            DUE.is("write() cut behind " + behind, Due.write(desk, 30, 50), -2);
            DUE.is("its tape is empty", desk.count(0), 0);
            DUE.is("the power is gone", desk.count(4), 0);
            DUE.is("it is no entry", desk.count(3), 1);
            desk.put(9L, 1);
            DUE.is("write() without power", desk.write(), -1);
            DUE.is("it keeps the tape", desk.count(0), 1);
            DUE.is("start()", desk.start(), 1);
            DUE.is("sectors behind start()", desk.count(2), 2);
            DUE.is("the number is used again", desk.write(), 1);
            DUE.is("bytes(1, 0)", desk.bytes(1, 0), 9L << 56);
            DUE.is("bytes(0, 0)", desk.bytes(0, 0), 0x0102030405060708L);
        }
    }
}

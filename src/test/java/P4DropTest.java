public final class P4DropTest {
    private static final Due DUE = new Due();

    public static void main(String[] args) {
        oldestGo();
        wrongMany();
        keptEntries();
        keptFromTheDropOn();
        room();
        cutDrop();
        roundTheRing();
        DUE.end();
    }

    private static void oldestGo() {
        JournalDesk desk = new JournalDesk();
        for (int at = 0; at < 5; at++) {
            Due.write(desk, at, 10 * at);
        }
        DUE.is("drop(0)", desk.drop(0), 5);
        DUE.is("drop(2)", desk.drop(2), 3);
        DUE.is("record(0, 1)", desk.record(0, 1), 2);
        DUE.is("record(2, 1)", desk.record(2, 1), 4);
        DUE.is("record(3, 1)", desk.record(3, 1), -1);
        DUE.is("bytes(0, 0)", desk.bytes(0, 0), 0x1415L << 48);
        DUE.is("drop(3)", desk.drop(3), 0);
        DUE.is("record(0, 1) of none", desk.record(0, 1), -1);
        DUE.is("drop(0) of none", desk.drop(0), 0);
        DUE.is("drops are entries", desk.count(3), 9);
    }

    private static void wrongMany() {
        JournalDesk desk = new JournalDesk();
        Due.writeEmpty(desk, 2);
        desk.put(1L, 4);
        for (int many : new int[] {3, -1, Integer.MIN_VALUE, Integer.MAX_VALUE}) {
            DUE.is("drop(" + many + ")", desk.drop(many), -1);
            DUE.is("records", desk.count(1), 2);
            DUE.is("sectors", desk.count(2), 2);
            DUE.is("entries", desk.count(3), 2);
        }
        DUE.is("drop(2)", desk.drop(2), 0);
        DUE.is("a drop leaves the tape", desk.count(0), 4);
    }

    private static void keptEntries() {
        JournalDesk desk = new JournalDesk();
        Due.write(desk, 100, 0);
        desk.drop(0);
        Due.write(desk, 13, 0);
        DUE.is("record, drop, record", desk.count(2), 12);
        desk.drop(0);
        DUE.is("a drop of none gives nothing back ahead of a record", desk.count(2), 13);
        desk.drop(1);
        DUE.is("the drop between the records goes, too", desk.count(2), 4);
    }

    private static void keptFromTheDropOn() {
        JournalDesk desk = new JournalDesk();
        desk.drop(0);
        DUE.is("a first drop is kept", desk.count(2), 1);
        desk.drop(0);
        DUE.is("the second alone is kept", desk.count(2), 1);
        desk.write();
        DUE.is("a write gives nothing back", desk.count(2), 2);
        DUE.is("record(0, 1) behind a drop", desk.record(0, 1), 0);
        desk.drop(0);
        DUE.is("kept from the record on", desk.count(2), 2);
        desk.drop(1);
        DUE.is("kept from the drop on", desk.count(2), 1);
    }

    private static void room() {
        JournalDesk desk = new JournalDesk();
        Due.writeEmpty(desk, 39);
        DUE.is("drop in the last sector", desk.drop(1), 38);
        DUE.is("sectors", desk.count(2), 39);

        JournalDesk full = new JournalDesk();
        Due.writeEmpty(full, 40);
        DUE.is("drop without room", full.drop(40), -1);
        DUE.is("drop(0) without room", full.drop(0), -1);
        DUE.is("records", full.count(1), 40);
        DUE.is("entries", full.count(3), 40);
    }

    private static void cutDrop() {
        for (int behind = 0; behind <= 8; behind++) {
            JournalDesk desk = new JournalDesk();
            Due.writeEmpty(desk, 3);
            desk.put(1L, 5);
            desk.cut(behind);
            DUE.is("drop(2) cut behind " + behind, desk.drop(2), -2);
            DUE.is("the power is gone", desk.count(4), 0);
            DUE.is("drop(0) without power", desk.drop(0), -1);
            DUE.is("drop(1) without power", desk.drop(1), -1);
            DUE.is("start()", desk.start(), 3);
            DUE.is("none went", desk.record(0, 1), 0);
            DUE.is("sectors", desk.count(2), 3);
            DUE.is("entries", desk.count(3), 3);
            DUE.is("a cut drop leaves the tape", desk.count(0), 5);
            DUE.is("drop(2)", desk.drop(2), 1);
        }
    }

    private static void roundTheRing() {
        JournalDesk desk = new JournalDesk();
        writeByEights(desk, 0);
        for (int round = 1; round < 18; round++) {
            DUE.is("write() of round " + round, writeByEights(desk, round), round);
            DUE.is("drop(1) of round " + round, desk.drop(1), 1);
            DUE.is("sectors of round " + round, desk.count(2), 9);
            for (int k = 0; k < 96; k += 8) {
                DUE.is("bytes(0, " + k + ") of round " + round, desk.bytes(0, k), round * 1000L + k);
            }
        }
    }

    private static int writeByEights(JournalDesk desk, int round) {
        for (int k = 0; k < 96; k += 8) {
            desk.put(round * 1000L + k, 8);
        }
        return desk.write();
    }
}

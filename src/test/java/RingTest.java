/** The ring's end is no edge: entries go on behind it as anywhere else. */
public final class RingTest {
    private static final Due DUE = new Due();
    private static final int[] LENGTHS = {0, 1, 12, 13, 24, 25, 96, 97, 100};

    public static void main(String[] args) {
        DUE.test("a record from every sector on", RingTest::recordEverywhere);
        DUE.test("a full disk from every sector on", RingTest::fullEverywhere);
        DUE.test("a drop gives back round the ring's end", RingTest::dropEverywhere);
        DUE.test("a cut write leaves the entries ahead of it, from every sector on", RingTest::cutWriteEverywhere);
        DUE.test("a cut drop in the last free sector, from every sector on", RingTest::cutDropEverywhere);
        DUE.test("long records, many times round", RingTest::manyRounds);
        DUE.end();
    }

    private static void recordEverywhere() {
        for (int turn = 0; turn < 40; turn++) {
            for (int length : LENGTHS) {
                JournalDesk desk = Due.turned(turn);
                DUE.is("write()", Due.write(desk, length, 30), 0);
                DUE.is("write()", Due.write(desk, 9, 80), 1);
                DUE.holds("turned by " + turn, desk, 0, length, 30);
                DUE.holds("turned by " + turn, desk, 1, 9, 80);
            }
        }
    }

    /** The oldest entry is a record of three sectors, so that what is written too far would show. */
    private static JournalDesk oldestIsARecord(int turn) {
        JournalDesk desk = Due.turned(turn);
        DUE.is("write()", Due.write(desk, 30, 9), 0);
        DUE.is("drop(0)", desk.drop(0), 1);
        DUE.is("count(2) turned by " + turn, desk.count(2), 4);
        return desk;
    }

    private static void fullEverywhere() {
        for (int turn = 0; turn < 40; turn++) {
            JournalDesk desk = oldestIsARecord(turn);
            for (int i = 1; i < 9; i++) {
                DUE.is("write() " + i, Due.write(desk, lengthInFull(i), 31 * i), i);
            }
            DUE.is("count(2) turned by " + turn, desk.count(2), 40);
            DUE.is("write()", desk.write(), -1);
            DUE.is("drop(1)", desk.drop(1), -1);
            DUE.holds("turned by " + turn, desk, 0, 30, 9);
            for (int i = 1; i < 9; i++) {
                DUE.is("record(" + i + ", 1)", desk.record(i, 1), i);
                DUE.holds("turned by " + turn, desk, i, lengthInFull(i), 31 * i);
            }
        }
    }

    /** Three of nine sectors, four of one and one of five: 36 in all. */
    private static int lengthInFull(int i) {
        return i < 4 ? 101 - i : i < 8 ? i : 60;
    }

    private static void dropEverywhere() {
        for (int turn = 0; turn < 40; turn++) {
            for (int many = 0; many <= 4; many++) {
                JournalDesk desk = Due.turned(turn);
                int left = 0;
                for (int i = 0; i < 4; i++) {
                    Due.write(desk, 13 + 12 * i, 50 * i);
                    left += i < many ? 0 : 2 + i;
                }
                DUE.is("drop(" + many + ") turned by " + turn, desk.drop(many), 4 - many);
                DUE.is("count(2)", desk.count(2), left + 1);
                for (int i = many; i < 4; i++) {
                    DUE.is("record(" + (i - many) + ", 1)", desk.record(i - many, 1), i);
                    DUE.holds("turned by " + turn, desk, i - many, 13 + 12 * i, 50 * i);
                }
            }
        }
    }

    private static void cutWriteEverywhere() {
        for (int turn = 0; turn < 40; turn++) {
            JournalDesk desk = oldestIsARecord(turn);
            for (int i = 1; i < 4; i++) {
                Due.write(desk, 100, 60 * i);
            }
            desk.cut(turn % 9);
            DUE.is("write() that would fill the disk", Due.write(desk, 100, 11), -2);
            DUE.is("start()", desk.start(), 4);
            DUE.is("count(2)", desk.count(2), 31);
            DUE.is("write() that fills the disk", Due.write(desk, 97, 12), 4);
            DUE.is("count(2)", desk.count(2), 40);
            DUE.holds("turned by " + turn, desk, 0, 30, 9);
            for (int i = 1; i < 4; i++) {
                DUE.holds("turned by " + turn, desk, i, 100, 60 * i);
            }
            DUE.holds("turned by " + turn, desk, 4, 97, 12);
        }
    }

    private static void cutDropEverywhere() {
        for (int turn = 0; turn < 40; turn++) {
            JournalDesk desk = oldestIsARecord(turn);
            for (int i = 1; i < 36; i++) {
                desk.put(i, 1);
                desk.write();
            }
            desk.cut(turn % 9);
            DUE.is("drop(36) turned by " + turn, desk.drop(36), -2);
            DUE.is("start()", desk.start(), 36);
            DUE.is("count(2)", desk.count(2), 39);
            DUE.holds("turned by " + turn, desk, 0, 30, 9);
            for (int i = 1; i < 36; i++) {
                DUE.is("record(" + i + ", 1)", desk.record(i, 1), i);
                DUE.is("bytes(" + i + ", 0)", desk.bytes(i, 0), (long) i << 56);
            }
            DUE.is("drop(35)", desk.drop(35), 1);
            DUE.is("record(0, 1)", desk.record(0, 1), 35);
        }
    }

    private static void manyRounds() {
        JournalDesk desk = new JournalDesk();
        Due.write(desk, 100, 0);
        for (int round = 1; round < 15; round++) {
            DUE.is("write() of round " + round, Due.write(desk, 100, round), round);
            DUE.is("drop(1) of round " + round, desk.drop(1), 1);
            DUE.is("count(2) of round " + round, desk.count(2), 10);
            DUE.is("record(0, 1)", desk.record(0, 1), round);
            DUE.holds("of round " + round, desk, 0, 100, round);
        }
    }
}

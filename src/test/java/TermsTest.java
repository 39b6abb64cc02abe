/** The edges that the document's "Terms" name, but for the way round the ring and refused calls. */
public final class TermsTest {
    private static final Due DUE = new Due();

    public static void main(String[] args) {
        DUE.test("A RECORD has 0 .. 100 bytes", TermsTest::lengths);
        DUE.test("a NUMBER, 0, 1, .. in the order in which they were written", TermsTest::numbers);
        DUE.test("The disk has 40 SECTORS", TermsTest::fortySectors);
        DUE.test("one more for each 12 bytes begun behind the first 12", TermsTest::sectorsOfEachLength);
        DUE.test("13 bytes: 2 sectors", TermsTest::thirteenBytes);
        DUE.test("100 bytes: 9", TermsTest::hundredBytes);
        DUE.test("DROPS, of one sector", TermsTest::dropsTakeOne);
        DUE.test("a drop is an entry, too", TermsTest::dropsAreEntries);
        DUE.test("KEPT from the oldest record that is left on", TermsTest::keptFromTheOldestRecord);
        DUE.test("a drop of 0 gives older drops back", TermsTest::olderDropsGo);
        DUE.test("or, if none is, from this drop on", TermsTest::keptFromTheDrop);
        DUE.test("a write gives nothing back", TermsTest::writeGivesNothingBack);
        DUE.test("A write is refused if they are more than 40", TermsTest::roomForWrites);
        DUE.test("A drop is refused if they are more than 40", TermsTest::roomForDrops);
        DUE.test("sectors that were given back are not counted", TermsTest::roomBehindDrops);
        DUE.test("all but one at most: a cut write is none", TermsTest::cutWriteIsNeverWhole);
        DUE.test("all but one at most: a cut drop is none", TermsTest::cutDropIsNeverWhole);
        DUE.test("its number is used by the next write again", TermsTest::numberIsUsedAgain);
        DUE.test("and the power is gone", TermsTest::powerIsGone);
        DUE.test("START: all entries that were whole are there, just as they were", TermsTest::justAsTheyWere);
        DUE.test("START: drops that were kept are there too", TermsTest::keptDropsAreThere);
        DUE.test("All memory is the class's own", TermsTest::ownMemory);
        DUE.end();
    }

    private static void lengths() {
        for (int length = 0; length <= 100; length++) {
            JournalDesk desk = new JournalDesk();
            DUE.is("write()", Due.write(desk, length, 200), 0);
            DUE.holds("of it", desk, 0, length, 200);
        }
        JournalDesk desk = new JournalDesk();
        Due.fill(desk, 100, 0);
        DUE.is("a 101st byte", desk.put(1L, 1), false);
    }

    private static void numbers() {
        JournalDesk desk = new JournalDesk();
        DUE.is("the first", desk.write(), 0);
        DUE.is("the second", desk.write(), 1);
        desk.drop(0);
        DUE.is("a drop has no number", desk.write(), 2);
        desk.drop(3);
        DUE.is("a number is not used again if its record went", desk.write(), 3);
        DUE.is("record(0, 1)", desk.record(0, 1), 3);
    }

    private static void fortySectors() {
        JournalDesk desk = new JournalDesk();
        for (int at = 0; at < 40; at++) {
            DUE.is("write() " + at, desk.write(), at);
            DUE.is("count(2)", desk.count(2), at + 1);
        }
        DUE.is("the 41st sector", desk.write(), -1);
        DUE.is("count(1)", desk.count(1), 40);
    }

    private static void sectorsOfEachLength() {
        for (int length = 0; length <= 100; length++) {
            int sectors = 1;
            for (int begun = 12; begun < length; begun += 12) {
                sectors++;
            }
            takes(length, sectors);
        }
    }

    private static void thirteenBytes() {
        takes(12, 1);
        takes(13, 2);
        takes(24, 2);
        takes(25, 3);
    }

    private static void hundredBytes() {
        takes(96, 8);
        takes(97, 9);
        takes(100, 9);
    }

    private static void takes(int length, int sectors) {
        JournalDesk desk = new JournalDesk();
        Due.write(desk, length, 0);
        DUE.is("sectors of " + length + " bytes", desk.count(2), sectors);
    }

    private static void dropsTakeOne() {
        JournalDesk desk = new JournalDesk();
        desk.write();
        for (int drops = 1; drops <= 39; drops++) {
            DUE.is("drop(0)", desk.drop(0), 1);
            DUE.is("count(2)", desk.count(2), 1 + drops);
        }
        DUE.is("the 40th drop", desk.drop(0), -1);
    }

    private static void dropsAreEntries() {
        JournalDesk desk = new JournalDesk();
        desk.write();
        desk.drop(0);
        desk.drop(1);
        DUE.is("count(3)", desk.count(3), 3);
        DUE.is("count(1)", desk.count(1), 0);
    }

    private static void keptFromTheOldestRecord() {
        JournalDesk desk = new JournalDesk();
        Due.write(desk, 100, 0);
        desk.drop(0);
        Due.write(desk, 13, 0);
        DUE.is("record, drop, record", desk.count(2), 12);
        desk.drop(0);
        DUE.is("a drop behind the oldest record is kept", desk.count(2), 13);
        desk.drop(1);
        DUE.is("the drop ahead of the next record goes, too", desk.count(2), 4);
        desk.write();
        desk.drop(1);
        DUE.is("both drops ahead of the last record go", desk.count(2), 2);
    }

    private static void olderDropsGo() {
        JournalDesk desk = new JournalDesk();
        desk.drop(0);
        desk.write();
        DUE.is("drop, record", desk.count(2), 2);
        DUE.is("drop(0)", desk.drop(0), 1);
        DUE.is("record, drop", desk.count(2), 2);
        DUE.is("record(0, 1)", desk.record(0, 1), 0);
    }

    private static void keptFromTheDrop() {
        JournalDesk desk = new JournalDesk();
        desk.drop(0);
        DUE.is("a first drop is kept", desk.count(2), 1);
        desk.drop(0);
        DUE.is("the second alone is kept", desk.count(2), 1);
        Due.write(desk, 100, 0);
        Due.write(desk, 100, 0);
        desk.drop(2);
        DUE.is("the last drop alone is kept", desk.count(2), 1);
    }

    private static void writeGivesNothingBack() {
        JournalDesk desk = new JournalDesk();
        desk.drop(0);
        desk.write();
        DUE.is("count(2)", desk.count(2), 2);
        Due.writeEmpty(desk, 38);
        DUE.is("the drop's sector is no room", desk.write(), -1);
        DUE.is("count(2) of a full disk", desk.count(2), 40);
    }

    private static void roomForWrites() {
        for (int sectors = 1; sectors <= 9; sectors++) {
            int length = sectors == 9 ? 100 : 12 * sectors;
            JournalDesk desk = new JournalDesk();
            Due.writeEmpty(desk, 40 - sectors);
            DUE.is("40 sectors with one of " + length, Due.write(desk, length, 5), 40 - sectors);
            DUE.is("count(2)", desk.count(2), 40);
            DUE.holds("on a full disk", desk, 40 - sectors, length, 5);

            JournalDesk less = new JournalDesk();
            Due.writeEmpty(less, 41 - sectors);
            DUE.is("41 sectors with one of " + length, Due.write(less, length, 5), -1);
            DUE.is("count(2)", less.count(2), 41 - sectors);
        }
    }

    private static void roomForDrops() {
        for (int many : new int[] {0, 1, 39}) {
            JournalDesk desk = new JournalDesk();
            Due.writeEmpty(desk, 39);
            DUE.is("drop(" + many + ") as the 40th", desk.drop(many), 39 - many);

            JournalDesk full = new JournalDesk();
            Due.writeEmpty(full, 40);
            DUE.is("drop(" + many + ") as the 41st, whatever it would give back", full.drop(many), -1);
            DUE.is("count(2)", full.count(2), 40);
        }
    }

    private static void roomBehindDrops() {
        JournalDesk desk = new JournalDesk();
        Due.writeEmpty(desk, 39);
        desk.drop(39);
        DUE.is("count(2)", desk.count(2), 1);
        Due.writeEmpty(desk, 39);
        DUE.is("count(2)", desk.count(2), 40);
        DUE.is("write() on a full disk", desk.write(), -1);
    }

    private static void cutWriteIsNeverWhole() {
        for (int sectors = 1; sectors <= 9; sectors++) {
            int length = sectors == 9 ? 100 : 12 * sectors;
            for (int behind = 0; behind <= 8; behind++) {
                JournalDesk desk = new JournalDesk();
                desk.cut(behind);
                DUE.is("write() of " + sectors + " cut behind " + behind, Due.write(desk, length, 5), -2);
                DUE.is("count(3)", desk.count(3), 0);
                DUE.is("start()", desk.start(), 0);
                DUE.is("count(2)", desk.count(2), 0);
                DUE.is("record(0, 0)", desk.record(0, 0), -1);
            }
        }
    }

    private static void cutDropIsNeverWhole() {
        for (int behind = 0; behind <= 8; behind++) {
            JournalDesk desk = new JournalDesk();
            Due.writeEmpty(desk, 2);
            desk.cut(behind);
            DUE.is("drop(2) cut behind " + behind, desk.drop(2), -2);
            DUE.is("count(3)", desk.count(3), 2);
            DUE.is("start()", desk.start(), 2);
            DUE.is("count(2)", desk.count(2), 2);
        }
    }

    private static void numberIsUsedAgain() {
        JournalDesk desk = new JournalDesk();
        for (int number = 0; number < 5; number++) {
            for (int cuts = 0; cuts < number; cuts++) {
                Due.powerOff(desk);
                desk.start();
            }
            DUE.is("write() behind " + number + " cuts", desk.write(), number);
            DUE.is("its number", desk.record(number, 1), number);
        }
        desk.cut(0);
        desk.drop(1);
        desk.start();
        DUE.is("a cut drop uses none", desk.write(), 5);
    }

    private static void powerIsGone() {
        JournalDesk desk = new JournalDesk();
        desk.cut(0);
        desk.write();
        DUE.is("count(4) behind a cut write", desk.count(4), 0);
        desk.start();
        desk.cut(0);
        desk.drop(0);
        DUE.is("count(4) behind a cut drop", desk.count(4), 0);
        DUE.is("start()", desk.start(), 0);
    }

    private static JournalDesk severalEntries() {
        JournalDesk desk = new JournalDesk();
        for (int at = 0; at < 6; at++) {
            Due.write(desk, 7 * at, 20 * at);
        }
        desk.drop(2);
        desk.drop(0);
        desk.write();
        return desk;
    }

    private static void justAsTheyWere() {
        for (int behind = 0; behind <= 8; behind++) {
            JournalDesk desk = severalEntries();
            Due.fill(desk, 100, 7);
            desk.cut(behind);
            DUE.is("write()", desk.write(), -2);
            DUE.is("start()", desk.start(), 5);
            DUE.same("behind a cut write", desk, severalEntries());
            desk.cut(behind);
            DUE.is("drop(5)", desk.drop(5), -2);
            DUE.is("start()", desk.start(), 5);
            DUE.same("behind a cut drop", desk, severalEntries());
            DUE.is("write()", desk.write(), 7);
        }
    }

    private static void keptDropsAreThere() {
        JournalDesk desk = new JournalDesk();
        desk.drop(0);
        Due.powerOff(desk);
        DUE.is("start()", desk.start(), 0);
        DUE.is("a drop that left no record is kept", desk.count(2), 1);
        desk.write();
        Due.powerOff(desk);
        DUE.is("start()", desk.start(), 1);
        DUE.is("so it is ahead of a record", desk.count(2), 2);
        DUE.is("record(0, 1)", desk.record(0, 1), 0);
    }

    private static void ownMemory() {
        JournalDesk one = new JournalDesk();
        JournalDesk other = new JournalDesk();
        Due.fill(one, 20, 1);
        DUE.is("count(0) of the other", other.count(0), 0);
        Due.fill(other, 20, 100);
        DUE.is("write() of the one", one.write(), 0);
        DUE.is("write() of the other", other.write(), 0);
        DUE.holds("of the one", one, 0, 20, 1);
        DUE.holds("of the other", other, 0, 20, 100);
        one.cut(0);
        DUE.is("drop(0) of the other", other.drop(0), 1);
        DUE.is("drop(1) of the one", one.drop(1), -2);
        DUE.is("count(4) of the other", other.count(4), 1);
        DUE.is("count(1) of the other", other.count(1), 1);
    }
}

public final class P5CutTest {
    private static final Due DUE = new Due();

    public static void main(String[] args) {
        DUE.test("5: the next write is cut, if that is 0 .. 8: true", P5CutTest::nextWrite);
        DUE.test("5: the next drop is cut, if that is 0 .. 8: true", P5CutTest::nextDrop);
        DUE.test("5: it is not, for -1: true", P5CutTest::takenBack);
        DUE.test("5: false for others: too small", P5CutTest::tooSmall);
        DUE.test("5: false for others: too large", P5CutTest::tooLarge);
        DUE.test("5: that is not refused: room", P5CutTest::behindNoRoom);
        DUE.test("5: that is not refused: not as many", P5CutTest::behindNotAsMany);
        DUE.test("5: that is not refused: power", P5CutTest::behindNoPower);
        DUE.test("5: other calls leave the cut", P5CutTest::otherCalls);
        DUE.test("5: only the next one is cut", P5CutTest::onlyTheNext);
        DUE.test("5: the last cut that was true holds", P5CutTest::lastCutHolds);
        DUE.end();
    }

    private static void nextWrite() {
        for (int sectors = 0; sectors <= 8; sectors++) {
            JournalDesk desk = new JournalDesk();
            DUE.is("cut(" + sectors + ")", desk.cut(sectors), true);
            DUE.is("there is power yet", desk.count(4), 1);
            DUE.is("write() behind cut(" + sectors + ")", desk.write(), -2);
            DUE.is("there is none then", desk.count(4), 0);
        }
    }

    private static void nextDrop() {
        for (int sectors = 0; sectors <= 8; sectors++) {
            JournalDesk desk = new JournalDesk();
            DUE.is("cut(" + sectors + ")", desk.cut(sectors), true);
            DUE.is("there is power yet", desk.count(4), 1);
            DUE.is("drop(0) behind cut(" + sectors + ")", desk.drop(0), -2);
            DUE.is("there is none then", desk.count(4), 0);
        }
    }

    private static void takenBack() {
        JournalDesk desk = new JournalDesk();
        DUE.is("cut(-1) of none", desk.cut(-1), true);
        DUE.is("write()", desk.write(), 0);
        for (int sectors = 0; sectors <= 8; sectors++) {
            desk.cut(sectors);
            DUE.is("cut(-1) behind cut(" + sectors + ")", desk.cut(-1), true);
            DUE.is("write()", desk.write(), 2 * sectors + 1);
            desk.cut(sectors);
            desk.cut(-1);
            DUE.is("drop(0)", desk.drop(0), 2 * sectors + 2);
            desk.write();
        }
    }

    private static void tooSmall() {
        for (int sectors : new int[] {-2, -3, -9, Integer.MIN_VALUE}) {
            refuses(sectors);
        }
    }

    private static void tooLarge() {
        for (int sectors : new int[] {9, 10, 40, 256, Integer.MAX_VALUE}) {
            refuses(sectors);
        }
    }

    private static void refuses(int sectors) {
        JournalDesk desk = new JournalDesk();
        DUE.is("cut(" + sectors + ")", desk.cut(sectors), false);
        DUE.is("write() behind cut(" + sectors + ")", desk.write(), 0);
        DUE.is("drop(1) behind cut(" + sectors + ")", desk.drop(1), 0);
        desk.cut(3);
        DUE.is("cut(" + sectors + ") behind cut(3)", desk.cut(sectors), false);
        DUE.is("cut(3) stands", desk.write(), -2);
    }

    private static void behindNoRoom() {
        JournalDesk desk = new JournalDesk();
        Due.writeEmpty(desk, 39);
        Due.fill(desk, 13, 0);
        desk.cut(0);
        DUE.is("write() without room", desk.write(), -1);
        DUE.is("there is power yet", desk.count(4), 1);
        DUE.is("the tape is there yet", desk.count(0), 13);
        DUE.is("drop(1)", desk.drop(1), -2);

        JournalDesk full = new JournalDesk();
        Due.writeEmpty(full, 40);
        full.cut(0);
        DUE.is("drop(1) without room", full.drop(1), -1);
        DUE.is("write() on a full disk", full.write(), -1);
        DUE.is("there is power yet", full.count(4), 1);
    }

    private static void behindNotAsMany() {
        JournalDesk desk = new JournalDesk();
        Due.writeEmpty(desk, 2);
        desk.cut(0);
        DUE.is("drop(3) of 2", desk.drop(3), -1);
        DUE.is("drop(-1)", desk.drop(-1), -1);
        DUE.is("there is power yet", desk.count(4), 1);
        DUE.is("write()", desk.write(), -2);
    }

    private static void behindNoPower() {
        JournalDesk desk = new JournalDesk();
        Due.powerOff(desk);
        DUE.is("cut(1) without power", desk.cut(1), true);
        DUE.is("write() without power", desk.write(), -1);
        DUE.is("drop(0) without power", desk.drop(0), -1);
        DUE.is("start()", desk.start(), 0);
        DUE.is("write() behind start()", desk.write(), -2);
        DUE.is("cut(1) again", desk.cut(1), true);
        DUE.is("cut(9) without power", desk.cut(9), false);
        DUE.is("cut(-1) without power", desk.cut(-1), true);
        desk.start();
        DUE.is("write() that isn't cut", desk.write(), 0);
    }

    private static void otherCalls() {
        JournalDesk desk = new JournalDesk();
        desk.write();
        desk.cut(2);
        DUE.is("put", desk.put(1L, 1), true);
        DUE.is("put(1, 0)", desk.put(1L, 0), false);
        DUE.is("start() with power", desk.start(), -1);
        DUE.is("record(0, 0)", desk.record(0, 0), 0);
        DUE.is("bytes(0, 0)", desk.bytes(0, 0), 0);
        DUE.is("count(0)", desk.count(0), 1);
        DUE.is("there is power yet", desk.count(4), 1);
        DUE.is("drop(1)", desk.drop(1), -2);
    }

    private static void onlyTheNext() {
        JournalDesk desk = new JournalDesk();
        desk.cut(8);
        DUE.is("write()", desk.write(), -2);
        DUE.is("start()", desk.start(), 0);
        DUE.is("the write behind it", desk.write(), 0);
        DUE.is("the drop behind it", desk.drop(1), 0);
        desk.cut(8);
        DUE.is("drop(0)", desk.drop(0), -2);
        DUE.is("start()", desk.start(), 0);
        DUE.is("the drop behind that", desk.drop(0), 0);
        DUE.is("the write behind that", desk.write(), 1);
    }

    private static void lastCutHolds() {
        JournalDesk desk = new JournalDesk();
        desk.cut(4);
        desk.cut(-1);
        desk.cut(0);
        DUE.is("drop(0) behind cut(4), cut(-1), cut(0)", desk.drop(0), -2);
        desk.start();
        desk.cut(0);
        desk.cut(7);
        DUE.is("write() behind cut(0), cut(7)", desk.write(), -2);
        desk.start();
        DUE.is("both were one cut", desk.write(), 0);
    }
}

public final class P5CutTest {
    private static final Due DUE = new Due();

    public static void main(String[] args) {
        whatItTakes();
        refusedCallsAreNotCut();
        onlyTheNextIsCut();
        laterCutsWin();
        withoutPower();
        DUE.end();
    }

    private static void whatItTakes() {
        for (int sectors = -1; sectors <= 8; sectors++) {
            JournalDesk desk = new JournalDesk();
            DUE.is("cut(" + sectors + ")", desk.cut(sectors), true);
            DUE.is("there is power yet", desk.count(4), 1);
            DUE.is("write() behind cut(" + sectors + ")", desk.write(), sectors == -1 ? 0 : -2);
        }
        for (int sectors : new int[] {9, -2, 40, Integer.MIN_VALUE, Integer.MAX_VALUE}) {
            JournalDesk desk = new JournalDesk();
            DUE.is("cut(" + sectors + ")", desk.cut(sectors), false);
            DUE.is("write() behind cut(" + sectors + ")", desk.write(), 0);
            desk.cut(3);
            DUE.is("cut(" + sectors + ") behind cut(3)", desk.cut(sectors), false);
            DUE.is("cut(3) stands", desk.write(), -2);
        }
    }

    private static void refusedCallsAreNotCut() {
        JournalDesk desk = new JournalDesk();
        Due.writeEmpty(desk, 39);
        Due.fill(desk, 13, 0);
        desk.cut(0);
        DUE.is("write() without room", desk.write(), -1);
        DUE.is("drop(40) of 39", desk.drop(40), -1);
        DUE.is("there is power yet", desk.count(4), 1);
        DUE.is("the tape is there yet", desk.count(0), 13);
        DUE.is("drop(1)", desk.drop(1), -2);
    }

    private static void onlyTheNextIsCut() {
        JournalDesk desk = new JournalDesk();
        desk.cut(2);
        DUE.is("write()", desk.write(), -2);
        DUE.is("start()", desk.start(), 0);
        DUE.is("the write behind it", desk.write(), 0);
        DUE.is("the drop behind it", desk.drop(1), 0);
    }

    private static void laterCutsWin() {
        JournalDesk desk = new JournalDesk();
        desk.cut(4);
        desk.cut(-1);
        DUE.is("write() behind cut(4), cut(-1)", desk.write(), 0);
        desk.cut(-1);
        desk.cut(0);
        DUE.is("drop(0) behind cut(-1), cut(0)", desk.drop(0), -2);
    }

    private static void withoutPower() {
        JournalDesk desk = new JournalDesk();
        Due.powerOff(desk);
        DUE.is("cut(1) without power", desk.cut(1), true);
        DUE.is("write() without power", desk.write(), -1);
        DUE.is("drop(0) without power", desk.drop(0), -1);
        DUE.is("start()", desk.start(), 0);
        DUE.is("write() behind start()", desk.write(), -2);
        DUE.is("cut(1) again", desk.cut(1), true);
        DUE.is("cut(-1) without power", desk.cut(-1), true);
        desk.start();
        DUE.is("write() that isn't cut", desk.write(), 0);
    }
}

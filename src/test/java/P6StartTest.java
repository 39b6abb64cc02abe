public final class P6StartTest {
    private static final Due DUE = new Due();

    public static void main(String[] args) {
        refusedWithPower();
        entriesAreJustAsTheyWere();
        keptDropsAreThereToo();
        DUE.end();
    }

    private static void refusedWithPower() {
        JournalDesk desk = new JournalDesk();
        DUE.is("start() of a new object", desk.start(), -1);
        desk.cut(0);
        DUE.is("start() behind cut(0)", desk.start(), -1);
        DUE.is("the cut stands", desk.write(), -2);
        DUE.is("start()", desk.start(), 0);
        DUE.is("start() again", desk.start(), -1);
    }

    private static void entriesAreJustAsTheyWere() {
        JournalDesk desk = new JournalDesk();
        for (int at = 0; at < 6; at++) {
            Due.write(desk, 7 * at, 20 * at);
        }
        desk.drop(2);
        int sectors = desk.count(2);
        Due.fill(desk, 100, 7);
        Due.powerOff(desk);
        DUE.is("start()", desk.start(), 4);
        DUE.is("power", desk.count(4), 1);
        DUE.is("records", desk.count(1), 4);
        DUE.is("sectors", desk.count(2), sectors);
        DUE.is("entries", desk.count(3), 7);
        for (int i = 0; i < 4; i++) {
            DUE.is("record(" + i + ", 0)", desk.record(i, 0), 7 * (i + 2));
            DUE.is("record(" + i + ", 1)", desk.record(i, 1), i + 2);
            long first = 20 * (i + 2);
            DUE.is("bytes(" + i + ", 0)", desk.bytes(i, 0) >>> 56, first & 0xFF);
        }
        DUE.is("write()", desk.write(), 6);
    }

    private static void keptDropsAreThereToo() {
        JournalDesk desk = new JournalDesk();
        desk.drop(0);
        desk.write();
        Due.powerOff(desk);
        DUE.is("start()", desk.start(), 1);
        DUE.is("a drop ahead of the oldest record is kept", desk.count(2), 2);
    }
}

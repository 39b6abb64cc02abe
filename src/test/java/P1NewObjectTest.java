public final class P1NewObjectTest {
    private static final Due DUE = new Due();

    public static void main(String[] args) {
        DUE.test("1: No entries", P1NewObjectTest::noEntries);
        DUE.test("1: there is power", P1NewObjectTest::power);
        DUE.test("1: the tape is empty", P1NewObjectTest::emptyTape);
        DUE.test("1: no cut waits", P1NewObjectTest::noCut);
        DUE.end();
    }

    private static void noEntries() {
        JournalDesk desk = new JournalDesk();
        DUE.is("count(1)", desk.count(1), 0);
        DUE.is("count(2)", desk.count(2), 0);
        DUE.is("count(3)", desk.count(3), 0);
        DUE.is("record(0, 0)", desk.record(0, 0), -1);
        DUE.is("record(0, 1)", desk.record(0, 1), -1);
        DUE.is("bytes(0, 0)", desk.bytes(0, 0), -1);
        DUE.is("drop(1)", desk.drop(1), -1);
    }

    private static void power() {
        JournalDesk desk = new JournalDesk();
        DUE.is("count(4)", desk.count(4), 1);
        DUE.is("start()", desk.start(), -1);
        DUE.is("write()", desk.write(), 0);
    }

    private static void emptyTape() {
        JournalDesk desk = new JournalDesk();
        DUE.is("count(0)", desk.count(0), 0);
        DUE.is("write()", desk.write(), 0);
        DUE.is("bytes of a first record without put", desk.record(0, 0), 0);
    }

    private static void noCut() {
        DUE.is("a first write()", new JournalDesk().write(), 0);
        DUE.is("a first drop(0)", new JournalDesk().drop(0), 0);
    }
}

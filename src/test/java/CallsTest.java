/** "An object is used for at most 512 calls": all of them are answered. */
public final class CallsTest {
    private static final Due DUE = new Due();
    private static final int CALLS = 512;

    public static void main(String[] args) {
        DUE.test("512 calls: entries up to the last one", CallsTest::entries);
        DUE.test("512 calls: drops alone", CallsTest::drops);
        DUE.test("512 calls: writes alone", CallsTest::writes);
        DUE.test("512 calls: puts alone", CallsTest::puts);
        DUE.test("512 calls: cuts and starts", CallsTest::cutsAndStarts);
        DUE.end();
    }

    private static void entries() {
        JournalDesk desk = new JournalDesk();
        for (int pair = 0; pair < CALLS / 2; pair++) {
            DUE.is("write() " + pair, desk.write(), pair);
            DUE.is("drop(1) " + pair, desk.drop(1), 0);
        }
        JournalDesk asked = new JournalDesk();
        for (int pair = 0; pair < CALLS / 2 - 2; pair++) {
            asked.write();
            asked.drop(1);
        }
        DUE.is("call 509", asked.write(), CALLS / 2 - 2);
        DUE.is("call 510", asked.count(3), CALLS - 3);
        DUE.is("call 511", asked.count(2), 2);
        DUE.is("call 512", asked.record(0, 1), CALLS / 2 - 2);
    }

    private static void drops() {
        JournalDesk desk = new JournalDesk();
        for (int call = 1; call < CALLS; call++) {
            DUE.is("drop(0), call " + call, desk.drop(0), 0);
        }
        DUE.is("call 512", desk.count(3), CALLS - 1);
    }

    private static void writes() {
        JournalDesk desk = new JournalDesk();
        for (int call = 0; call < CALLS - 1; call++) {
            DUE.is("write(), call " + (call + 1), desk.write(), call < 40 ? call : -1);
        }
        DUE.is("call 512", desk.record(39, 1), 39);
    }

    private static void puts() {
        JournalDesk desk = new JournalDesk();
        for (int call = 0; call < CALLS - 1; call++) {
            DUE.is("put, call " + (call + 1), desk.put(call, 1), call < 100);
        }
        DUE.is("call 512", desk.count(0), 100);
    }

    private static void cutsAndStarts() {
        JournalDesk desk = new JournalDesk();
        desk.write();
        for (int round = 0; round < 127; round++) {
            DUE.is("cut, round " + round, desk.cut(round % 9), true);
            DUE.is("write() or drop(1), round " + round, round % 2 == 0 ? desk.write() : desk.drop(1), -2);
            DUE.is("start(), round " + round, desk.start(), 1);
            DUE.is("count(3), round " + round, desk.count(3), 1);
        }
        DUE.is("call 510", desk.write(), 1);
        DUE.is("call 511", desk.drop(2), 0);
        DUE.is("call 512", desk.count(3), 3);
    }
}

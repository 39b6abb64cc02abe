public final class P6StartTest {
    private static final Due DUE = new Due();

    public static void main(String[] args) {
        DUE.test("6: The power comes again", P6StartTest::powerComes);
        DUE.test("6: how many records there are", P6StartTest::howMany);
        DUE.test("6: -1, refused, if it is there", P6StartTest::refusedWithPower);
        DUE.end();
    }

    private static void powerComes() {
        JournalDesk desk = new JournalDesk();
        Due.powerOff(desk);
        DUE.is("count(4)", desk.count(4), 0);
        desk.start();
        DUE.is("count(4) behind start()", desk.count(4), 1);
        DUE.is("write()", desk.write(), 0);
        DUE.is("drop(1)", desk.drop(1), 0);
    }

    private static void howMany() {
        for (int records = 0; records < 40; records++) {
            JournalDesk desk = new JournalDesk();
            Due.writeEmpty(desk, records);
            Due.powerOff(desk);
            DUE.is("start() with " + records, desk.start(), records);
            desk.drop(records / 2);
            Due.powerOff(desk);
            DUE.is("start() behind a drop", desk.start(), records - records / 2);
        }
    }

    private static void refusedWithPower() {
        JournalDesk desk = new JournalDesk();
        DUE.is("start() of a new object", desk.start(), -1);
        Due.writeEmpty(desk, 2);
        DUE.is("start() with two records", desk.start(), -1);
        desk.cut(0);
        DUE.is("start() behind cut(0)", desk.start(), -1);
        DUE.is("the cut stands", desk.write(), -2);
        DUE.is("start()", desk.start(), 2);
        DUE.is("start() again", desk.start(), -1);
    }
}

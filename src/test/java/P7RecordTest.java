public final class P7RecordTest {
    public static void main(String[] args) {
        Due due = new Due();
        JournalDesk desk = new JournalDesk();
        int[] lengths = {0, 1, 12, 13, 100};
        for (int length : lengths) {
            Due.write(desk, length, 0);
            desk.drop(0);
        }
        for (int i = 0; i < lengths.length; i++) {
            due.is("record(" + i + ", 0)", desk.record(i, 0), lengths[i]);
            due.is("record(" + i + ", 1)", desk.record(i, 1), i);
            for (int what : new int[] {-1, 2, Integer.MIN_VALUE, Integer.MAX_VALUE}) {
                due.is("record(" + i + ", " + what + ")", desk.record(i, what), -1);
            }
        }
        for (int i : new int[] {-1, 5, 40, Integer.MIN_VALUE, Integer.MAX_VALUE}) {
            due.is("record(" + i + ", 0)", desk.record(i, 0), -1);
            due.is("record(" + i + ", 1)", desk.record(i, 1), -1);
        }
        Due.powerOff(desk);
        due.is("record(4, 0) without power", desk.record(4, 0), -1);
        due.is("record(4, 1) without power", desk.record(4, 1), -1);
        desk.start();
        due.is("record(4, 0) behind start()", desk.record(4, 0), 100);
        due.is("record(4, 1) behind start()", desk.record(4, 1), 4);
        due.end();
    }
}

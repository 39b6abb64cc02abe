public final class P1NewObjectTest {
    public static void main(String[] args) {
        Due due = new Due();
        JournalDesk desk = new JournalDesk();
        due.is("count(0)", desk.count(0), 0);
        due.is("count(1)", desk.count(1), 0);
        due.is("count(2)", desk.count(2), 0);
        due.is("count(3)", desk.count(3), 0);
        due.is("count(4)", desk.count(4), 1);
        due.is("record(0, 0)", desk.record(0, 0), -1);
        due.is("record(0, 1)", desk.record(0, 1), -1);
        due.is("bytes(0, 0)", desk.bytes(0, 0), -1);
        due.is("start() with power", desk.start(), -1);
        due.is("write() isn't cut", desk.write(), 0);

        JournalDesk other = new JournalDesk();
        due.is("another object's records", other.count(1), 0);
        due.is("another object's first number", other.write(), 0);
        due.is("a first drop(1)", new JournalDesk().drop(1), -1);
        due.end();
    }
}

import java.util.function.Consumer;

/** "A call that is refused changes nothing.": two journals with the same calls, but for the refused one, stay alike. */
public final class RefusedTest {
    private static final Due DUE = new Due();

    /** A state of the journal that a refused call is tried in. */
    private enum State {
        NEW, SOME, FULL_TAPE, ONE_SECTOR_FREE, FULL_DISK, NO_POWER, NO_POWER_FULL_TAPE;

        JournalDesk make() {
            JournalDesk desk = new JournalDesk();
            if (this == NEW) {
                return desk;
            }
            desk.drop(0);
            Due.write(desk, 30, 1);
            Due.write(desk, 7, 90);
            desk.drop(1);
            if (this == ONE_SECTOR_FREE || this == FULL_DISK) {
                Due.writeEmpty(desk, this == FULL_DISK ? 38 : 37);
            }
            Due.fill(desk, 14, 60);
            if (this == NO_POWER || this == NO_POWER_FULL_TAPE) {
                desk.cut(0);
                desk.drop(0);
            }
            if (this == FULL_TAPE || this == NO_POWER_FULL_TAPE) {
                Due.fill(desk, 86, 5);
            }
            return desk;
        }

        boolean hasPower() {
            return this != NO_POWER && this != NO_POWER_FULL_TAPE;
        }
    }

    public static void main(String[] args) {
        DUE.test("put: n is not 1 .. 8", RefusedTest::putOfWrongLength);
        DUE.test("put: there would be more than 100", RefusedTest::putOfTooMany);
        DUE.test("write: without power", RefusedTest::writeWithoutPower);
        DUE.test("write: without room", RefusedTest::writeWithoutRoom);
        DUE.test("drop: without power", RefusedTest::dropWithoutPower);
        DUE.test("drop: without room", RefusedTest::dropWithoutRoom);
        DUE.test("drop: not as many", RefusedTest::dropOfTooMany);
        DUE.test("cut: others", RefusedTest::cutOfOthers);
        DUE.test("start: there is power", RefusedTest::startWithPower);
        DUE.test("record, bytes, count: they only ask", RefusedTest::questions);
        DUE.end();
    }

    private static void putOfWrongLength() {
        for (State state : State.values()) {
            for (int n : new int[] {0, -1, 9, Integer.MIN_VALUE, Integer.MAX_VALUE}) {
                changesNothing(state, "put(-1, " + n + ")", desk -> DUE.is("put", desk.put(-1L, n), false));
            }
        }
    }

    private static void putOfTooMany() {
        for (State state : new State[] {State.FULL_TAPE, State.NO_POWER_FULL_TAPE}) {
            for (int n = 1; n <= 8; n++) {
                int bytes = n;
                changesNothing(state, "put(-1, " + n + ")", desk -> DUE.is("put", desk.put(-1L, bytes), false));
            }
        }
    }

    private static void writeWithoutPower() {
        for (State state : new State[] {State.NO_POWER, State.NO_POWER_FULL_TAPE}) {
            changesNothing(state, "write()", desk -> DUE.is("write()", desk.write(), -1));
        }
    }

    private static void writeWithoutRoom() {
        for (State state : new State[] {State.ONE_SECTOR_FREE, State.FULL_DISK}) {
            changesNothing(state, "write()", desk -> DUE.is("write()", desk.write(), -1));
        }
    }

    private static void dropWithoutPower() {
        for (State state : new State[] {State.NO_POWER, State.NO_POWER_FULL_TAPE}) {
            for (int many : new int[] {0, 1, 2, -1}) {
                changesNothing(state, "drop(" + many + ")", desk -> DUE.is("drop", desk.drop(many), -1));
            }
        }
    }

    private static void dropWithoutRoom() {
        for (int many : new int[] {0, 1, 38, 39, 40}) {
            changesNothing(State.FULL_DISK, "drop(" + many + ")", desk -> DUE.is("drop", desk.drop(many), -1));
        }
    }

    private static void dropOfTooMany() {
        for (State state : new State[] {State.NEW, State.SOME, State.FULL_TAPE}) {
            for (int many : new int[] {2, 40, Integer.MAX_VALUE, -1, Integer.MIN_VALUE}) {
                changesNothing(state, "drop(" + many + ")", desk -> DUE.is("drop", desk.drop(many), -1));
            }
        }
    }

    private static void cutOfOthers() {
        for (State state : State.values()) {
            for (int sectors : new int[] {-2, 9, Integer.MIN_VALUE, Integer.MAX_VALUE}) {
                changesNothing(state, "cut(" + sectors + ")", desk -> DUE.is("cut", desk.cut(sectors), false));
            }
        }
    }

    private static void startWithPower() {
        for (State state : State.values()) {
            if (state.hasPower()) {
                changesNothing(state, "start()", desk -> DUE.is("start()", desk.start(), -1));
            }
        }
    }

    private static void questions() {
        for (State state : State.values()) {
            changesNothing(state, "questions", desk -> {
                for (int at : new int[] {-1, 0, 1, 2, 5, Integer.MIN_VALUE, Integer.MAX_VALUE}) {
                    desk.record(at, 0);
                    desk.record(0, at);
                    desk.bytes(at, 0);
                    desk.bytes(0, at);
                    desk.count(at);
                }
            });
        }
    }

    /** Tried without a cut that waits, and with one, as that is part of the state too. */
    private static void changesNothing(State state, String call, Consumer<JournalDesk> refused) {
        for (int cut = -1; cut <= 0; cut++) {
            JournalDesk desk = state.make();
            JournalDesk twin = state.make();
            desk.cut(cut);
            twin.cut(cut);
            refused.accept(desk);
            String when = "behind " + call + " in " + state + (cut == 0 ? " with a cut" : "");
            DUE.same(when, desk, twin);
            goOn(when, desk, twin);
            DUE.same("later " + when, desk, twin);
        }
    }

    /** Calls that show what can't be asked: the cut that waits, the tape's bytes, the next number. */
    private static void goOn(String when, JournalDesk desk, JournalDesk twin) {
        if (twin.count(4) == 0) {
            DUE.is("start() " + when, desk.start(), twin.start());
        }
        // A call that could be refused would hide a cut that only the one journal has lost.
        DUE.is("drop(0) " + when, desk.drop(0), twin.drop(0));
        DUE.is("start() " + when, desk.start(), twin.start());
        DUE.is("put " + when, desk.put(0xEEL, 1), twin.put(0xEEL, 1));
        DUE.is("write() " + when, desk.write(), twin.write());
        DUE.is("write() " + when, desk.write(), twin.write());
        DUE.is("drop(1) " + when, desk.drop(1), twin.drop(1));
    }
}

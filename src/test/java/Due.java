/** What the tests share: a count of wrong answers, and ways to fill a journal. */
final class Due {
    private int wrong = 0;

    void is(String call, long got, long want) {
        if (got != want) {
            wrong++;
            System.out.println(call + " answered " + got + ", due is " + want);
        }
    }

    void is(String call, boolean got, boolean want) {
        is(call, got ? 1L : 0L, want ? 1L : 0L);
    }

    void end() {
        System.out.println(wrong == 0 ? "all answers are as due" : wrong + " answers are not as due");
        if (wrong != 0) {
            System.exit(1);
        }
    }

    /** Puts so many bytes on the tape: first, first + 1, .. */
    static void fill(JournalDesk desk, int bytes, int first) {
        for (int at = 0; at < bytes; at++) {
            if (!desk.put(first + at, 1)) {
                throw new IllegalStateException("the tape took only " + at + " bytes");
            }
        }
    }

    static int write(JournalDesk desk, int bytes, int first) {
        fill(desk, bytes, first);
        return desk.write();
    }

    /** Writes so many records without bytes, of one sector each. */
    static void writeEmpty(JournalDesk desk, int records) {
        for (int at = 0; at < records; at++) {
            if (desk.write() < 0) {
                throw new IllegalStateException("only " + at + " records were written");
            }
        }
    }

    /** Cuts the power by a write that is cut; it empties the tape. */
    static void powerOff(JournalDesk desk) {
        if (!desk.cut(0) || desk.write() != -2) {
            throw new IllegalStateException("the power could not be cut");
        }
    }
}

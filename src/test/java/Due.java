/** What the tests share: named tests, a count of wrong answers, and ways to fill a journal. */
final class Due {
    private int wrong = 0;

    /** Runs one test, named by the document's words that it holds. */
    void test(String words, Runnable test) {
        int before = wrong;
        try {
            test.run();
        } catch (RuntimeException thrown) {
            // The other tests of the file are still worth running.
            wrong++;
            thrown.printStackTrace(System.out);
        }
        System.out.println((wrong == before ? "ok: " : "WRONG: ") + words);
    }

    void is(String call, long got, long want) {
        if (got != want) {
            wrong++;
            System.out.println(call + " answered " + got + ", due is " + want);
        }
    }

    void is(String call, boolean got, boolean want) {
        is(call, got ? 1L : 0L, want ? 1L : 0L);
    }

    /** All that can be asked of the one is as the other answers it; some 200 calls on a full disk. */
    void same(String when, JournalDesk got, JournalDesk want) {
        for (int what = 0; what <= 4; what++) {
            is("count(" + what + ") " + when, got.count(what), want.count(what));
        }
        int records = want.count(1);
        for (int i = 0; i < records; i++) {
            int length = want.record(i, 0);
            is("record(" + i + ", 0) " + when, got.record(i, 0), length);
            is("record(" + i + ", 1) " + when, got.record(i, 1), want.record(i, 1));
            for (int k = 0; k < length; k += 8) {
                is("bytes(" + i + ", " + k + ") " + when, got.bytes(i, k), want.bytes(i, k));
            }
        }
    }

    /** The i-th record has so many bytes, first, first + 1, .., and 0 behind them. */
    void holds(String when, JournalDesk desk, int i, int length, int first) {
        is("record(" + i + ", 0) " + when, desk.record(i, 0), length);
        for (int k = 0; k <= length; k += 8) {
            is("bytes(" + i + ", " + k + ") " + when, desk.bytes(i, k), eight(length, first, k));
        }
    }

    void end() {
        System.out.println(wrong == 0 ? "all answers are as due" : wrong + " answers are not as due");
        if (wrong != 0) {
            System.exit(1);
        }
    }

    /** What bytes is to answer from k on for a record that fill and write made. */
    static long eight(int length, int first, int k) {
        long eight = 0;
        for (int at = k; at < k + 8; at++) {
            eight = eight * 256 + (at < length ? first + at & 255 : 0);
        }
        return eight;
    }

    /** Puts so many bytes on the tape: first, first + 1, .. */
    static void fill(JournalDesk desk, int bytes, int first) {
        for (int at = 0; at < bytes; at += 8) {
            int n = Math.min(8, bytes - at);
            if (!desk.put(eight(bytes, first, at) >>> (64 - 8 * n), n)) {
                throw new IllegalStateException("the tape took only " + at + " bytes");
            }
        }
    }

    static int write(JournalDesk desk, int bytes, int first) {
        fill(desk, bytes, first);
        return desk.write();
    }

    /** Writes so many records without bytes, of one sector each. */
    static void writeEmpty(JournalDesk desk, int records) {
        for (int at = 0; at < records; at++) {
            if (desk.write() < 0) {
                throw new IllegalStateException("only " + at + " records were written");
            }
        }
    }

    /** A journal without records; its last entry, a drop, stands so many sectors round the ring. */
    static JournalDesk turned(int sectors) {
        JournalDesk desk = new JournalDesk();
        for (int at = 0; at <= sectors; at++) {
            if (desk.drop(0) != 0) {
                throw new IllegalStateException("the ring could not be turned");
            }
        }
        return desk;
    }

    /** Cuts the power by a write that is cut; it empties the tape. */
    static void powerOff(JournalDesk desk) {
        if (!desk.cut(0) || desk.write() != -2) {
            throw new IllegalStateException("the power could not be cut");
        }
    }
}

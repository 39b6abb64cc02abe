/**
 * A journal on a ring of sectors: records come, the oldest go, the power is cut
 * in the midst of a write; behind that all whole ones are there.
 */
public final class JournalDesk {
    private static final int TAPE_BYTES = 100;
    private static final int MOST_PUT = 8;
    private static final int MOST_CUT = 8;
    private static final int NO_CUT = -1;
    private static final int REFUSED = -1;
    private static final int WAS_CUT = -2;
    private static final int NONE = -1;

    private final byte[] tape;
    private int taped;
    private final Ring ring;
    private int nextNumber;
    private int wholeEntries;
    private boolean power;
    // A flag is enough: a cut entry is none, however many of its sectors were written.
    private boolean cutNext;

    public JournalDesk() {
        tape = new byte[TAPE_BYTES];
        taped = 0;
        ring = new Ring();
        nextNumber = 0;
        wholeEntries = 0;
        power = true;
        cutNext = false;
    }

    public boolean put(long v, int n) {
        if (n < 1 || n > MOST_PUT || n > TAPE_BYTES - taped) {
            return false;
        }
        for (int left = n - 1; left >= 0; left--) {
            tape[taped] = (byte) (v >>> (8 * left));
            taped++;
        }
        return true;
    }

    public int write() {
        if (!power || !ring.hasRoom(Ring.sectorsFor(taped))) {
            return REFUSED;
        }
        int length = taped;
        taped = 0;
        if (losesPower()) {
            return WAS_CUT;
        }
        int number = nextNumber;
        ring.addRecord(tape, length, number);
        nextNumber++;
        wholeEntries++;
        return number;
    }

    public int drop(int many) {
        if (!power || many < 0 || many > ring.records() || !ring.hasRoom(Ring.DROP_SECTORS)) {
            return REFUSED;
        }
        if (losesPower()) {
            return WAS_CUT;
        }
        ring.addDrop(many);
        wholeEntries++;
        return ring.records();
    }

    public boolean cut(int sectors) {
        if (sectors < NO_CUT || sectors > MOST_CUT) {
            return false;
        }
        cutNext = sectors != NO_CUT;
        return true;
    }

    public int start() {
        if (power) {
            return REFUSED;
        }
        power = true;
        return ring.records();
    }

    public int record(int i, int what) {
        int sector = findRecord(i);
        if (sector == NONE) {
            return NONE;
        }
        switch (what) {
            case 0:
                return ring.lengthAt(sector);
            case 1:
                return ring.numberAt(sector);
            default:
                return NONE;
        }
    }

    public long bytes(int i, int k) {
        int sector = findRecord(i);
        if (sector == NONE || k < 0) {
            return NONE;
        }
        return ring.eightBytes(sector, k);
    }

    public int count(int what) {
        switch (what) {
            case 0:
                return taped;
            case 1:
                return power ? ring.records() : 0;
            case 2:
                return power ? ring.sectors() : 0;
            case 3:
                return wholeEntries;
            case 4:
                return power ? 1 : 0;
            default:
                return NONE;
        }
    }

    /** Spends the cut that waits for the next entry, if there is one. */
    private boolean losesPower() {
        if (!cutNext) {
            return false;
        }
        cutNext = false;
        power = false;
        return true;
    }

    private int findRecord(int i) {
        return power ? ring.sectorOfRecord(i) : NONE;
    }

    /** The kept entries, each known by its first sector; they stand one behind the other round the ring. */
    private static final class Ring {
        private static final int SECTORS = 40;
        private static final int SECTOR_BYTES = 12;
        private static final int DISK_BYTES = SECTORS * SECTOR_BYTES;
        private static final int DROP_SECTORS = 1;
        private static final int DROP = -1;

        private final byte[] disk;
        // For an entry's first sector: the record's bytes, or DROP. Other sectors' values are stale.
        private final int[] lengths;
        private final int[] numbers;
        private int oldest;
        private int used;
        private int present;

        Ring() {
            disk = new byte[DISK_BYTES];
            lengths = new int[SECTORS];
            numbers = new int[SECTORS];
            oldest = 0;
            used = 0;
            present = 0;
        }

        static int sectorsFor(int length) {
            return length <= SECTOR_BYTES ? 1 : (length + SECTOR_BYTES - 1) / SECTOR_BYTES;
        }

        int records() {
            return present;
        }

        int sectors() {
            return used;
        }

        boolean hasRoom(int sectors) {
            return sectors <= SECTORS - used;
        }

        void addRecord(byte[] from, int length, int number) {
            int sector = addEntry(length, sectorsFor(length));
            numbers[sector] = number;
            for (int at = 0; at < length && at < from.length; at++) {
                disk[place(sector, at)] = from[at];
            }
            present++;
        }

        void addDrop(int many) {
            int drop = addEntry(DROP, DROP_SECTORS);
            present -= many;
            int going = many;
            for (int step = 0; step < SECTORS && oldest != drop; step++) {
                if (isRecord(oldest)) {
                    if (going == 0) {
                        return;
                    }
                    going--;
                }
                giveBackOldest();
            }
        }

        int sectorOfRecord(int i) {
            if (i < 0 || i >= present) {
                return NONE;
            }
            int sector = oldest;
            int ahead = i;
            for (int step = 0; step < SECTORS; step++) {
                if (isRecord(sector)) {
                    if (ahead == 0) {
                        return sector;
                    }
                    ahead--;
                }
                sector = onRing(sector + sectorsAt(sector));
            }
            return NONE;
        }

        int lengthAt(int sector) {
            return lengths[onRing(sector)];
        }

        int numberAt(int sector) {
            return numbers[onRing(sector)];
        }

        long eightBytes(int sector, int from) {
            int length = lengthAt(sector);
            // Asked first, so that from + 7 can't wrap round to a small place.
            if (from < 0 || from >= length) {
                return 0L;
            }
            long eight = 0L;
            for (int at = from; at < from + 8; at++) {
                int next = at < length ? disk[place(sector, at)] & 0xFF : 0;
                eight = eight << 8 | next;
            }
            return eight;
        }

        private int addEntry(int length, int sectors) {
            int sector = onRing(oldest + used);
            lengths[sector] = length;
            used += sectors;
            return sector;
        }

        private void giveBackOldest() {
            int sectors = sectorsAt(oldest);
            oldest = onRing(oldest + sectors);
            used -= sectors;
        }

        private boolean isRecord(int sector) {
            return lengthAt(sector) != DROP;
        }

        private int sectorsAt(int sector) {
            return isRecord(sector) ? sectorsFor(lengthAt(sector)) : DROP_SECTORS;
        }

        private static int onRing(int sector) {
            return Math.floorMod(sector, SECTORS);
        }

        private static int place(int sector, int at) {
            return Math.floorMod(sector * SECTOR_BYTES + at, DISK_BYTES);
        }
    }
}

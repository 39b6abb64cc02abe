import java.util.ArrayList;
import java.util.List;
import java.util.Random;

/** Long runs of calls against a plain model that keeps every entry ever written in a list. */
public final class ModelTest {
    private static final int RUNS = 3000;
    private static final int CALLS = 512;
    private static final int[] EDGES = {-2, -1, 0, 1, 2, 7, 8, 9, 39, 40, 41, 100, Integer.MIN_VALUE, Integer.MAX_VALUE};

    public static void main(String[] args) {
        Due due = new Due();
        for (int run = 0; run < RUNS; run++) {
            play(due, new Random(run), "run " + run);
        }
        due.end();
    }

    private static void play(Due due, Random random, String run) {
        JournalDesk desk = new JournalDesk();
        Model model = new Model();
        int longest = random.nextInt(14);
        for (int call = 0; call < CALLS; call++) {
            String where = run + ", call " + call + ": ";
            switch (random.nextInt(12)) {
                case 0, 1, 2, 3 -> {
                    long v = random.nextLong();
                    int n = number(random, 9);
                    due.is(where + "put", desk.put(v, n), model.put(v, n));
                }
                case 4, 5 -> due.is(where + "write", desk.write(), model.write());
                case 6 -> {
                    int many = number(random, 1 + longest);
                    due.is(where + "drop(" + many + ")", desk.drop(many), model.drop(many));
                }
                case 7 -> {
                    int sectors = random.nextBoolean() ? -1 : number(random, 10);
                    due.is(where + "cut", desk.cut(sectors), model.cut(sectors));
                }
                case 8 -> due.is(where + "start", desk.start(), model.start());
                case 9 -> {
                    int i = number(random, 12);
                    int what = number(random, 2);
                    due.is(where + "record(" + i + ", " + what + ")", desk.record(i, what), model.record(i, what));
                }
                case 10 -> {
                    int i = number(random, 12);
                    int k = number(random, 30);
                    due.is(where + "bytes(" + i + ", " + k + ")", desk.bytes(i, k), model.bytes(i, k));
                }
                default -> {
                    int what = number(random, 5);
                    due.is(where + "count(" + what + ")", desk.count(what), model.count(what));
                }
            }
        }
    }

    /** Mostly a number below the bound, now and then an edge. */
    private static int number(Random random, int bound) {
        return random.nextInt(10) == 0 ? EDGES[random.nextInt(EDGES.length)] : random.nextInt(bound);
    }

    /** An entry's record bytes; null for a drop. */
    private record Entry(List<Integer> bytes, int number) {
        int sectors() {
            return bytes == null ? 1 : Math.max(1, (bytes.size() + 11) / 12);
        }
    }

    private static final class Model {
        private final List<Entry> all = new ArrayList<>();
        private int keptFrom = 0;
        private int dropped = 0;
        private List<Integer> tape = new ArrayList<>();
        private boolean power = true;
        private boolean cut = false;

        /** Places, among all entries, of the records that are there. */
        private List<Integer> present() {
            List<Integer> places = new ArrayList<>();
            int records = 0;
            for (int at = 0; at < all.size(); at++) {
                if (all.get(at).bytes() != null) {
                    if (records >= dropped) {
                        places.add(at);
                    }
                    records++;
                }
            }
            return places;
        }

        private int keptSectors() {
            return all.subList(keptFrom, all.size()).stream().mapToInt(Entry::sectors).sum();
        }

        private Entry there(int i) {
            List<Integer> present = present();
            return !power || i < 0 || i >= present.size() ? null : all.get(present.get(i));
        }

        boolean put(long v, int n) {
            if (n < 1 || n > 8 || tape.size() + n > 100) {
                return false;
            }
            for (int at = n - 1; at >= 0; at--) {
                tape.add((int) (v >> (8 * at)) & 255);
            }
            return true;
        }

        private int add(Entry entry) {
            if (!power || keptSectors() + entry.sectors() > 40) {
                return -1;
            }
            if (cut) {
                cut = false;
                power = false;
                return -2;
            }
            all.add(entry);
            return 0;
        }

        int write() {
            int number = (int) all.stream().filter(entry -> entry.bytes() != null).count();
            int answer = add(new Entry(tape, number));
            if (answer != -1) {
                tape = new ArrayList<>();
            }
            return answer == 0 ? number : answer;
        }

        int drop(int many) {
            if (many < 0 || many > present().size()) {
                return -1;
            }
            int answer = add(new Entry(null, 0));
            if (answer != 0) {
                return answer;
            }
            dropped += many;
            List<Integer> left = present();
            keptFrom = left.isEmpty() ? all.size() - 1 : left.get(0);
            return left.size();
        }

        boolean cut(int sectors) {
            if (sectors < -1 || sectors > 8) {
                return false;
            }
            cut = sectors >= 0;
            return true;
        }

        int start() {
            if (power) {
                return -1;
            }
            power = true;
            return present().size();
        }

        int record(int i, int what) {
            Entry entry = there(i);
            if (entry == null || what < 0 || what > 1) {
                return -1;
            }
            return what == 0 ? entry.bytes().size() : entry.number();
        }

        long bytes(int i, int k) {
            Entry entry = there(i);
            if (entry == null || k < 0) {
                return -1;
            }
            long eight = 0;
            for (long at = k; at < k + 8L; at++) {
                eight = eight << 8 | (at < entry.bytes().size() ? entry.bytes().get((int) at) : 0);
            }
            return eight;
        }

        int count(int what) {
            return switch (what) {
                case 0 -> tape.size();
                case 1 -> power ? present().size() : 0;
                case 2 -> power ? keptSectors() : 0;
                case 3 -> all.size();
                case 4 -> power ? 1 : 0;
                default -> -1;
            };
        }
    }
}

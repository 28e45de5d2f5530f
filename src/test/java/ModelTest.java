import java.util.Arrays;
import java.util.Random;

/** Long mixed runs of calls: every answer of SignQuorum is that of the slow model. The seeds are fixed. */
public final class ModelTest {
    private static final int RUNS = 3000;
    private static final int[] ODD = {-1, 0, 10, 16, 20, 24, 31, 32, 1000001, Integer.MIN_VALUE, Integer.MAX_VALUE};
    private static final int[] PATHS = {0x1, 0x2, 0x12, 0x13, 0x121, 0x12e, 0x123456, 0xe, 0x11, 0xf, 0x102, 0};
    private static final int[] PATTERNS = {0x1, 0xf, 0x12, 0x1f, 0xf2, 0xff, 0x12f, 0xffffff, 0x2, 0xf0, 0x1000000, 0};
    private static final int LATEST = 12;

    private final Random random;
    private final Pair pair;
    private int keys = 0;
    private int rows = 0;
    private long lastSignature = 0;

    // How often each answer of verify and update (by its negative, 0 for 1) and each role by find came.
    private final int[] ruleCounts;
    private final int[] foundCounts;

    private ModelTest(Check check, int run, int[] ruleCounts, int[] foundCounts) {
        this.pair = new Pair(check, "run " + run);
        this.random = new Random(run);
        this.ruleCounts = ruleCounts;
        this.foundCounts = foundCounts;
    }

    public static void main(String[] args) {
        Check check = new Check();
        int[] ruleCounts = new int[9];
        int[] foundCounts = new int[11];
        for (int run = 0; run < RUNS; run++) {
            new ModelTest(check, run, ruleCounts, foundCounts).play();
        }
        for (int rule = 0; rule <= 8; rule++) {
            check.yes("rule " + rule + " was told, times: " + ruleCounts[rule], ruleCounts[rule] > 100);
        }
        for (int role = 3; role <= 9; role++) {
            check.yes("role " + role + " was found, times: " + foundCounts[role], foundCounts[role] > 100);
        }
        System.out.println("verify and update: " + Arrays.toString(ruleCounts));
        System.out.println("find: " + Arrays.toString(foundCounts));
        check.end();
    }

    private void play() {
        if (random.nextInt(4) != 0) {
            begin();
        }
        // A step makes at most some forty calls, and the document promises nothing behind the 512th.
        while (pair.callsLeft() > 45) {
            step();
        }
        while (pair.callsLeft() > 0) {
            pair.digest(random.nextInt(32));
        }
    }

    /** Most runs begin with a house that works, so that the later rules come into play. */
    private void begin() {
        addKey(random.nextLong(), LATEST + 5);
        addKey(random.nextLong(), LATEST);
        for (int role = 0; role <= 9; role++) {
            pair.holds(role, 0, true);
            pair.holds(role, 1, random.nextBoolean());
        }
        addRow(0, 1 + random.nextInt(3), LATEST + 5);
        sign(0, 0);
        update(0, 0);
        if (random.nextInt(3) != 0) {
            takeSnapshot();
        }
    }

    private void takeSnapshot() {
        addRow(1, 1, LATEST);
        pair.tells(1, 2, 1);
        sign(1, 0);
        update(1, 0);
        addRow(2, 1, LATEST);
        for (int role = 3; role <= 9; role++) {
            pair.tells(2, role, 1);
        }
        sign(2, 0);
        update(2, 0);
        for (int role = 3; role <= 9; role++) {
            if (random.nextInt(3) != 0) {
                filledRow(role, 1);
            }
        }
    }

    private void step() {
        int kind = random.nextInt(100);
        if (kind < 2) {
            addKey(random.nextInt(3), time());
        } else if (kind < 4) {
            int role = role();
            int n = random.nextInt(8) == 0 ? odd() : 1 + random.nextInt(2);
            pair.quorum(role, n);
        } else if (kind < 8) {
            pair.holds(role(), key(), random.nextInt(4) != 0);
        } else if (kind < 14) {
            wholeRow();
        } else if (kind < 17) {
            addRow(role(), random.nextInt(10) == 0 ? odd() : version(), time());
        } else if (kind < 60) {
            change(kind);
        } else if (kind < 85) {
            ask(kind);
        } else {
            lookUp();
        }
    }

    private void wholeRow() {
        int role = random.nextInt(10);
        filledRow(role, role == 0 ? pair.version(0) + 1 : version());
    }

    /** A row that is made, filled, signed and often taken at once. */
    private void filledRow(int role, int version) {
        int row = rows;
        addRow(role, version, LATEST - random.nextInt(3));
        int parts = random.nextInt(10);
        for (int i = 0; i < parts; i++) {
            fill(row, role);
        }
        sign(row, 0);
        if (random.nextBoolean()) {
            sign(row, 1);
        }
        update(row, 0);
    }

    private void fill(int row, int role) {
        if (role == 1 || role == 2) {
            pair.tells(row, role == 1 ? 2 : 3 + random.nextInt(7), version());
        } else if (random.nextInt(3) == 0) {
            pair.lists(row, path());
        } else {
            delegate(row);
        }
    }

    private void change(int kind) {
        int row = row();
        if (kind < 24) {
            pair.octet(row, random.nextInt());
        } else if (kind < 31) {
            pair.tells(row, role(), random.nextInt(10) == 0 ? odd() : version());
        } else if (kind < 39) {
            delegate(row);
        } else if (kind < 44) {
            pair.lists(row, path());
        } else if (kind < 56) {
            sign(row, key());
        } else {
            int key = key();
            long number = random.nextBoolean() ? lastSignature : random.nextInt(2);
            pair.forge(row, key, number);
        }
    }

    private void ask(int kind) {
        if (kind < 72) {
            update(row(), random.nextInt(LATEST));
        } else if (kind < 84) {
            count(pair.verify(row(), time()));
        } else if (random.nextInt(4) == 0) {
            pair.revoke(key());
        }
    }

    private void lookUp() {
        int role = role();
        int row = row();
        int what = random.nextInt(20) == 0 ? odd() : random.nextInt(7);
        int found = pair.find(path());
        foundCounts[found >= 0 ? found : 10]++;
        pair.version(role);
        pair.current(role);
        pair.about(row, what);
        pair.hash(row);
        int step = random.nextInt(6) == 0 ? 1 : 9;
        for (int i = random.nextInt(step); i < 32; i += step) {
            pair.digest(i);
        }
    }

    private void addKey(long secret, long until) {
        pair.key(secret, until);
        keys++;
    }

    private void addRow(int role, int version, long until) {
        int number = pair.row(role, version, until);
        rows = number >= 0 ? number + 1 : rows;
    }

    private void delegate(int row) {
        int pattern = random.nextInt(10) == 0 ? random.nextInt() >>> random.nextInt(32)
            : PATTERNS[random.nextInt(PATTERNS.length)];
        int to = random.nextInt(10) == 0 ? role() : 4 + random.nextInt(6);
        pair.delegate(row, pattern, to, random.nextInt(3) == 0);
    }

    private void sign(int row, int key) {
        lastSignature = pair.sign(row, key);
    }

    private void update(int row, long t) {
        count(pair.update(row, t));
    }

    private void count(int answer) {
        ruleCounts[answer == 1 ? 0 : -answer]++;
    }

    private int row() {
        return random.nextInt(12) == 0 ? odd() : random.nextInt(rows + 1);
    }

    private int key() {
        return random.nextInt(12) == 0 ? odd() : random.nextInt(2) == 0 ? 0 : random.nextInt(keys + 1);
    }

    private int role() {
        return random.nextInt(12) == 0 ? odd() : random.nextInt(10);
    }

    private int version() {
        return 1 + random.nextInt(2);
    }

    private long time() {
        return random.nextInt(30) == 0 ? random.nextLong() : random.nextInt(LATEST + 6);
    }

    private int path() {
        return random.nextInt(10) == 0 ? random.nextInt() >>> random.nextInt(32)
            : PATHS[random.nextInt(PATHS.length)];
    }

    private int odd() {
        return ODD[random.nextInt(ODD.length)];
    }
}

import java.util.ArrayList;
import java.util.Collections;
import java.util.List;
import java.util.Random;
import java.util.function.Consumer;

/**
 * Every call with every mix of the arguments at, below and above the document's bounds, in objects that are new,
 * in use or full: each answer is the slow model's, and nothing but digest throws. The seeds are fixed.
 */
public final class ExtremesTest {
    private static final int MIN = Integer.MIN_VALUE;
    private static final int MAX = Integer.MAX_VALUE;
    private static final int[] NUMBERS = {MIN, -1, 0, 1, 2, 11, 12, 19, 20, 23, 24, 31, 32, MAX};
    private static final int[] ROLES = {MIN, -1, 0, 1, 2, 3, 4, 9, 10, MAX};
    private static final int[] VERSIONS = {MIN, -1, 0, 1, 2, 999999, 1000000, 1000001, MAX};
    private static final int[] PATHS = {MIN, -1, 0, 0x1, 0xe, 0xf, 0x10, 0x1e, 0xeeeeee, 0xffffff, 0x1000000, MAX};
    private static final int[] OCTETS = {MIN, -1, 0, 255, 256, MAX};
    private static final int[] QUORUMS = {MIN, -1, 0, 1, 2, 9, 10, MAX};
    private static final int[] WHATS = {MIN, -1, 0, 1, 2, 3, 4, 5, 6, 7, MAX};
    private static final int[] PLACES = {MIN, -1, 0, 1, 30, 31, 32, MAX};
    private static final long[] TIMES = {Long.MIN_VALUE, Long.MIN_VALUE + 1, -1, 0, 999, 1000, 1001,
        Long.MAX_VALUE - 1, Long.MAX_VALUE};
    private static final long[] LONGS = {Long.MIN_VALUE, -1, 0, 1, Long.MAX_VALUE};
    private static final boolean[] BOTH = {false, true};
    private static final int ROUNDS = 60;

    private final List<Consumer<Pair>> calls = new ArrayList<>();

    public static void main(String[] args) {
        Check check = new Check();
        new ExtremesTest().play(check);
        check.end();
    }

    private ExtremesTest() {
        addKeyCalls();
        addRowCalls();
        addSignatureCalls();
        addClientCalls();
    }

    private void play(Check check) {
        List<Consumer<Pair>> states = List.of(p -> { }, ExtremesTest::root, ExtremesTest::snapshot,
            ExtremesTest::fullOfKeysAndRows, ExtremesTest::fullRows);
        for (int round = 0; round < ROUNDS; round++) {
            Collections.shuffle(calls, new Random(round));
            Pair pair = null;
            int objects = 0;
            for (Consumer<Pair> call : calls) {
                if (pair == null || pair.callsLeft() == 0) {
                    pair = new Pair(check, "round " + round + ", object " + objects);
                    states.get((round + objects) % states.size()).accept(pair);
                    objects++;
                }
                call.accept(pair);
            }
        }
    }

    private void addKeyCalls() {
        for (long a : LONGS) {
            for (long until : TIMES) {
                calls.add(p -> p.key(a, until));
            }
        }
        for (int role : ROLES) {
            for (int n : QUORUMS) {
                calls.add(p -> p.quorum(role, n));
            }
            for (int key : NUMBERS) {
                for (boolean on : BOTH) {
                    calls.add(p -> p.holds(role, key, on));
                }
            }
        }
        for (int key : NUMBERS) {
            calls.add(p -> p.revoke(key));
        }
    }

    private void addRowCalls() {
        for (int role : ROLES) {
            for (int version : VERSIONS) {
                for (long until : TIMES) {
                    calls.add(p -> p.row(role, version, until));
                }
                for (int row : NUMBERS) {
                    calls.add(p -> p.tells(row, role, version));
                }
            }
        }
        for (int row : NUMBERS) {
            for (int b : OCTETS) {
                calls.add(p -> p.octet(row, b));
            }
            for (int path : PATHS) {
                calls.add(p -> p.lists(row, path));
                for (int to : ROLES) {
                    for (boolean ends : BOTH) {
                        calls.add(p -> p.delegate(row, path, to, ends));
                    }
                }
            }
        }
    }

    private void addSignatureCalls() {
        for (int row : NUMBERS) {
            for (int key : NUMBERS) {
                calls.add(p -> p.sign(row, key));
                for (long number : LONGS) {
                    calls.add(p -> p.forge(row, key, number));
                }
            }
        }
    }

    private void addClientCalls() {
        for (int row : NUMBERS) {
            for (long t : TIMES) {
                calls.add(p -> p.verify(row, t));
                calls.add(p -> p.update(row, t));
            }
            for (int what : WHATS) {
                calls.add(p -> p.about(row, what));
            }
            calls.add(p -> p.hash(row));
        }
        for (int role : ROLES) {
            calls.add(p -> p.version(role));
            calls.add(p -> p.current(role));
        }
        for (int path : PATHS) {
            calls.add(p -> p.find(path));
        }
        for (int i : PLACES) {
            calls.add(p -> p.digest(i));
        }
    }

    private static void root(Pair p) {
        p.key(1, Long.MAX_VALUE);
        for (int role = 0; role <= 9; role++) {
            p.holds(role, 0, true);
        }
        p.row(0, 1, Long.MAX_VALUE);
        p.sign(0, 0);
        p.update(0, 0);
    }

    private static void snapshot(Pair p) {
        root(p);
        p.row(1, 1, Long.MAX_VALUE);
        p.tells(1, 2, 1);
        p.sign(1, 0);
        p.update(1, 0);
        p.row(2, 1, Long.MAX_VALUE);
        for (int role = 3; role <= 9; role++) {
            p.tells(2, role, 1);
        }
        p.sign(2, 0);
        p.update(2, 0);
    }

    /** Signed and unsigned rows of all roles; the roles 3, 4, 5 have current rows that name one another. */
    private static void fullOfKeysAndRows(Pair p) {
        snapshot(p);
        for (int k = 1; k < 20; k++) {
            p.key(k, 1000);
        }
        for (int role = 3; role <= 5; role++) {
            p.row(role, 1, 1000);
            p.delegate(role, 0xf, role + 1, false);
            p.delegate(role, 0x1, 4, true);
            p.lists(role, role == 5 ? 0xeeeeee : 0xe);
            p.sign(role, 0);
            p.update(role, 0);
        }
        for (int row = 6; row < 24; row++) {
            p.row(row % 10, 1, 1000);
            if (row % 2 == 0) {
                p.sign(row, 0);
            }
        }
    }

    /** Rows 1, 2, 11, 12 and 23 are full, and open but for row 23, which has twelve signatures. */
    private static void fullRows(Pair p) {
        p.key(1, Long.MAX_VALUE);
        for (int row = 0; row < 24; row++) {
            p.row(row == 23 ? 3 : row % 10, 1, 1000);
        }
        for (int row : new int[] {1, 2, 11, 12, 23}) {
            for (int i = 0; i < 16; i++) {
                p.octet(row, i);
            }
            for (int i = 3; i <= 9 && row % 10 == 2; i++) {
                p.tells(row, i, 1);
            }
        }
        for (int i = 0; i < 6; i++) {
            p.delegate(23, 0xffffff, 4 + i, true);
            p.lists(23, 0xeeeeee);
        }
        for (int i = 0; i < 12; i++) {
            p.sign(23, 0);
        }
    }
}

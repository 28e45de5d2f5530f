/** Objects that tests begin with, and the steps that most of them take. */
final class House {
    static final long FAR = 1000;
    static final int[] NO_ROLES = {-1, 10, 11, 32, 256, Integer.MIN_VALUE, Integer.MAX_VALUE};
    static final int[] NO_VERSIONS = {0, -1, 1000001, Integer.MIN_VALUE, Integer.MAX_VALUE};
    // No row and no key bears one of these numbers, however many there are.
    static final int[] NEVER_NUMBERS = {-1, 24, 32, 64, 256, Integer.MIN_VALUE, Integer.MAX_VALUE};

    private House() {
    }

    /** Key 0 alone is in each role's set, and row 0 is the client's root, version 1. */
    static SignQuorum withRoot(Check check) {
        SignQuorum x = new SignQuorum();
        x.key(11, FAR);
        holdAll(x, 0);
        take(check, x, x.row(0, 1, FAR));
        return x;
    }

    /** Behind the root, row 1 is the time row, and row 2 a snapshot that tells version 1 of the roles 3 .. 9. */
    static SignQuorum withSnapshot(Check check) {
        SignQuorum x = withRoot(check);
        takeSnapshot(check, x);
        return x;
    }

    static void takeSnapshot(Check check, SignQuorum x) {
        int time = x.row(1, 1, FAR);
        x.tells(time, 2, 1);
        take(check, x, time);
        int snapshot = x.row(2, 1, FAR);
        for (int role = 3; role <= 9; role++) {
            x.tells(snapshot, role, 1);
        }
        take(check, x, snapshot);
    }

    static void holdAll(SignQuorum x, int key) {
        for (int role = 0; role <= 9; role++) {
            x.holds(role, key, true);
        }
    }

    static void addKeys(SignQuorum x, int count) {
        for (int k = 0; k < count; k++) {
            x.key(k, FAR);
        }
    }

    static int signed(SignQuorum x, int role, int version, long until) {
        int row = x.row(role, version, until);
        x.sign(row, 0);
        return row;
    }

    /** Key 0 signs the row, and the client must take it. */
    static void take(Check check, SignQuorum x, int row) {
        x.sign(row, 0);
        check.same("update(" + row + ", 0)", x.update(row, 0), 1);
    }
}

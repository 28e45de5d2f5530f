import java.util.Arrays;

/** A SignQuorum and the slow model, which get the same calls; each answer must be the same. */
final class Pair {
    /** The document promises nothing behind this many calls. */
    static final int MOST_CALLS = 512;

    private final Check check;
    private final String name;
    private final SignQuorum x = new SignQuorum();
    private final Model model = new Model();
    private int calls = 0;

    Pair(Check check, String name) {
        this.check = check;
        this.name = name;
    }

    int callsLeft() {
        return MOST_CALLS - calls;
    }

    int key(long secret, long until) {
        return same(model.key(secret, until), x.key(secret, until), "key", secret, until);
    }

    void quorum(int role, int n) {
        same(model.quorum(role, n), x.quorum(role, n), "quorum", role, n);
    }

    void holds(int role, int key, boolean on) {
        same(model.holds(role, key, on), x.holds(role, key, on), "holds", role, key, on ? 1 : 0);
    }

    int row(int role, int version, long until) {
        return same(model.row(role, version, until), x.row(role, version, until), "row", role, version, until);
    }

    void octet(int row, int b) {
        same(model.octet(row, b), x.octet(row, b), "octet", row, b);
    }

    void tells(int row, int role, int version) {
        same(model.tells(row, role, version), x.tells(row, role, version), "tells", row, role, version);
    }

    void delegate(int row, int pattern, int to, boolean ends) {
        same(model.delegate(row, pattern, to, ends), x.delegate(row, pattern, to, ends), "delegate", row, pattern, to,
            ends ? 1 : 0);
    }

    void lists(int row, int path) {
        same(model.lists(row, path), x.lists(row, path), "lists", row, path);
    }

    long sign(int row, int key) {
        return same(model.sign(row, key), x.sign(row, key), "sign", row, key);
    }

    void forge(int row, int key, long signature) {
        same(model.forge(row, key, signature), x.forge(row, key, signature), "forge", row, key, signature);
    }

    int verify(int row, long t) {
        return same(model.verify(row, t), x.verify(row, t), "verify", row, t);
    }

    int update(int row, long t) {
        return same(model.update(row, t), x.update(row, t), "update", row, t);
    }

    void revoke(int key) {
        same(model.revoke(key), x.revoke(key), "revoke", key);
    }

    int find(int path) {
        return same(model.find(path), x.find(path), "find", path);
    }

    int version(int role) {
        return same(model.version(role), x.version(role), "version", role);
    }

    void current(int role) {
        same(model.current(role), x.current(role), "current", role);
    }

    void hash(int row) {
        same(model.hash(row), x.hash(row), "hash", row);
    }

    void digest(int i) {
        int due = i < 0 || i > 31 ? Integer.MAX_VALUE : model.digest(i);
        int got;
        try {
            got = x.digest(i);
        } catch (ArrayIndexOutOfBoundsException e) {
            got = Integer.MAX_VALUE;
        }
        same(due, got, "digest", i);
    }

    void about(int row, int what) {
        same(model.about(row, what), x.about(row, what), "about", row, what);
    }

    private void same(boolean due, boolean got, String method, long... arguments) {
        same(due ? 1 : 0, got ? 1 : 0, method, arguments);
    }

    private int same(int due, int got, String method, long... arguments) {
        return (int) same((long) due, (long) got, method, arguments);
    }

    private long same(long due, long got, String method, long... arguments) {
        calls++;
        if (due == got) {
            check.same(method, got, due);
        } else {
            check.same(name + ", call " + calls + ": " + method + Arrays.toString(arguments), got, due);
        }
        return got;
    }
}

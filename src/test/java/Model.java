import java.io.ByteArrayOutputStream;
import java.nio.ByteBuffer;
import java.security.MessageDigest;
import java.security.NoSuchAlgorithmException;
import java.util.ArrayList;
import java.util.HashSet;
import java.util.LinkedHashMap;
import java.util.List;
import java.util.Map;
import java.util.Set;
import java.util.TreeSet;

/**
 * The document said once more, slowly: signatures are kept and checked at every question, the digest is the
 * library's own, paths are lists of parts. It shares no code with SignQuorum, so that one fault is not in both.
 */
final class Model {
    private record Key(long secret, long until) { }

    private record Delegation(int pattern, int role, boolean ends) { }

    private record Signature(int key, long number) { }

    private static final class Over extends Exception {
        private static final long serialVersionUID = 1L;
    }

    private static final class Row {
        int role;
        int version;
        long until;
        final List<Integer> octets = new ArrayList<>();
        final List<Integer> quorums = new ArrayList<>();
        final List<Set<Integer>> sets = new ArrayList<>();
        final Map<Integer, Integer> told = new LinkedHashMap<>();
        final List<Delegation> delegations = new ArrayList<>();
        final List<Integer> paths = new ArrayList<>();
        final List<Signature> signatures = new ArrayList<>();
    }

    private final List<Key> keys = new ArrayList<>();
    private final List<Row> rows = new ArrayList<>();
    private final List<Integer> draftQuorums = new ArrayList<>();
    private final List<Set<Integer>> draftSets = new ArrayList<>();
    private final Map<Integer, Integer> currentRows = new LinkedHashMap<>();
    private final Set<Integer> revoked = new HashSet<>();
    private byte[] digest = new byte[32];

    Model() {
        for (int role = 0; role <= 9; role++) {
            draftQuorums.add(1);
            draftSets.add(new TreeSet<>());
        }
    }

    int key(long secret, long until) {
        if (keys.size() == 20) {
            return -1;
        }
        keys.add(new Key(secret, until));
        return keys.size() - 1;
    }

    boolean quorum(int role, int n) {
        if (role < 0 || role > 9 || n < 1 || n > 9) {
            return false;
        }
        draftQuorums.set(role, n);
        return true;
    }

    boolean holds(int role, int key, boolean on) {
        if (role < 0 || role > 9 || noKey(key)) {
            return false;
        }
        if (on) {
            draftSets.get(role).add(key);
        } else {
            draftSets.get(role).remove(key);
        }
        return true;
    }

    int row(int role, int version, long until) {
        if (role < 0 || role > 9 || version < 1 || version > 1000000 || rows.size() == 24) {
            return -1;
        }
        Row r = new Row();
        r.role = role;
        r.version = version;
        r.until = until;
        if (role == 0) {
            r.quorums.addAll(draftQuorums);
            for (Set<Integer> set : draftSets) {
                r.sets.add(new TreeSet<>(set));
            }
        }
        rows.add(r);
        return rows.size() - 1;
    }

    int octet(int row, int b) {
        if (noRow(row) || closed(row) || rows.get(row).octets.size() == 16) {
            return -1;
        }
        rows.get(row).octets.add(b & 255);
        return rows.get(row).octets.size();
    }

    boolean tells(int row, int role, int version) {
        if (noRow(row) || closed(row) || version < 1 || version > 1000000) {
            return false;
        }
        Row r = rows.get(row);
        boolean may = r.role == 1 && role == 2 || r.role == 2 && role >= 3 && role <= 9;
        if (may) {
            r.told.put(role, version);
        }
        return may;
    }

    int delegate(int row, int pattern, int to, boolean ends) {
        if (noRow(row) || closed(row) || rows.get(row).role < 3 || !isParts(pattern, "[1-9a-f]{1,6}")) {
            return -1;
        }
        List<Delegation> list = rows.get(row).delegations;
        if (to < 4 || to > 9 || list.size() == 6) {
            return -1;
        }
        list.add(new Delegation(pattern, to, ends));
        return list.size();
    }

    int lists(int row, int path) {
        if (noRow(row) || closed(row) || rows.get(row).role < 3 || !isPath(path)) {
            return -1;
        }
        List<Integer> list = rows.get(row).paths;
        if (list.size() == 6) {
            return -1;
        }
        list.add(path);
        return list.size();
    }

    long sign(int row, int key) {
        if (noRow(row) || noKey(key) || rows.get(row).signatures.size() == 12) {
            return 0;
        }
        long number = rightNumber(rows.get(row), key);
        rows.get(row).signatures.add(new Signature(key, number));
        return number;
    }

    boolean forge(int row, int key, long signature) {
        if (noRow(row) || noKey(key) || rows.get(row).signatures.size() == 12) {
            return false;
        }
        rows.get(row).signatures.add(new Signature(key, signature));
        return true;
    }

    int verify(int row, long t) {
        if (noRow(row)) {
            return -1;
        }
        Row r = rows.get(row);
        Row root = currentRow(0);
        if (r.role != 0 && !alive(root, t)) {
            return -2;
        }
        if (!(r.role == 0 && root == null) && !quorumBy(r, root, t)) {
            return -3;
        }
        if (r.role == 0 && !quorumBy(r, r, t)) {
            return -4;
        }
        Row before = currentRow(r.role);
        if (before != null && (r.role == 0 ? r.version != before.version + 1 : r.version < before.version)) {
            return -5;
        }
        if (!alive(r, t)) {
            return -6;
        }
        if (r.role >= 2) {
            Row teller = currentRow(r.role == 2 ? 1 : 2);
            if (!alive(teller, t) || !Integer.valueOf(r.version).equals(teller.told.get(r.role))) {
                return -7;
            }
        }
        if (r.role == 2 && before != null) {
            for (Map.Entry<Integer, Integer> e : before.told.entrySet()) {
                if (!r.told.containsKey(e.getKey()) || r.told.get(e.getKey()) < e.getValue()) {
                    return -8;
                }
            }
        }
        return 1;
    }

    int update(int row, long t) {
        int answer = verify(row, t);
        if (answer == 1) {
            currentRows.put(rows.get(row).role, row);
        }
        return answer;
    }

    boolean revoke(int key) {
        return !noKey(key) && revoked.add(key);
    }

    int find(int path) {
        if (!isPath(path) || currentRow(3) == null) {
            return -1;
        }
        try {
            return search(3, path, new HashSet<>());
        } catch (Over e) {
            return -1;
        }
    }

    int version(int role) {
        if (role < 0 || role > 9) {
            return -1;
        }
        return currentRow(role) == null ? 0 : currentRow(role).version;
    }

    int current(int role) {
        return currentRows.getOrDefault(role, -1);
    }

    int hash(int row) {
        if (noRow(row)) {
            return -1;
        }
        byte[] bytes = bytesOf(rows.get(row));
        digest = sha256(bytes);
        return bytes.length;
    }

    byte digest(int i) {
        return digest[i];
    }

    int about(int row, int what) {
        if (noRow(row)) {
            return -1;
        }
        Row r = rows.get(row);
        int[] answers = {r.role, r.version, r.signatures.size(), rightKeys(r).size(), r.told.size(),
            r.delegations.size(), r.paths.size()};
        return what < 0 || what > 6 ? -1 : answers[what];
    }

    private int search(int role, int path, Set<Integer> searched) throws Over {
        searched.add(role);
        Row r = currentRow(role);
        if (r.paths.contains(path)) {
            return role;
        }
        for (Delegation d : r.delegations) {
            if (!fits(d.pattern, path)) {
                continue;
            }
            if (!searched.contains(d.role) && currentRow(d.role) != null) {
                int found = search(d.role, path, searched);
                if (found != -1) {
                    return found;
                }
            }
            if (d.ends) {
                throw new Over();
            }
        }
        return -1;
    }

    static boolean fits(int pattern, int path) {
        String regex = Integer.toHexString(pattern).replace('f', '.') + ".*";
        return Integer.toHexString(path).matches(regex);
    }

    private static boolean isPath(int path) {
        return isParts(path, "[1-9a-e]{1,6}");
    }

    private static boolean isParts(int value, String regex) {
        return value > 0 && Integer.toHexString(value).matches(regex);
    }

    private boolean quorumBy(Row r, Row root, long t) {
        Set<Integer> good = rightKeys(r);
        good.retainAll(root.sets.get(r.role));
        good.removeAll(revoked);
        good.removeIf(k -> keys.get(k).until <= t);
        return good.size() >= root.quorums.get(r.role);
    }

    private Set<Integer> rightKeys(Row r) {
        Set<Integer> good = new TreeSet<>();
        for (Signature s : r.signatures) {
            if (s.number == rightNumber(r, s.key)) {
                good.add(s.key);
            }
        }
        return good;
    }

    private static boolean alive(Row r, long t) {
        return r != null && r.until > t;
    }

    private Row currentRow(int role) {
        return currentRows.containsKey(role) ? rows.get(currentRows.get(role)) : null;
    }

    private boolean noRow(int row) {
        return row < 0 || row >= rows.size();
    }

    private boolean noKey(int key) {
        return key < 0 || key >= keys.size();
    }

    private boolean closed(int row) {
        return !rows.get(row).signatures.isEmpty();
    }

    private long rightNumber(Row r, int key) {
        byte[] bytes = bytesOf(r);
        ByteBuffer all = ByteBuffer.allocate(8 + bytes.length);
        all.putLong(keys.get(key).secret).put(bytes);
        return ByteBuffer.wrap(sha256(all.array())).getLong();
    }

    private static byte[] bytesOf(Row r) {
        ByteArrayOutputStream out = new ByteArrayOutputStream();
        out.write(r.role);
        number(out, r.version);
        out.writeBytes(ByteBuffer.allocate(8).putLong(r.until).array());
        out.write(r.octets.size());
        r.octets.forEach(out::write);
        if (r.role == 0) {
            for (int role = 0; role <= 9; role++) {
                out.write(r.quorums.get(role));
                number(out, r.sets.get(role).stream().mapToInt(k -> 1 << k).sum());
            }
        } else if (r.role <= 2) {
            out.write(r.told.size());
            r.told.forEach((role, version) -> {
                out.write(role);
                number(out, version);
            });
        } else {
            out.write(r.delegations.size());
            for (Delegation d : r.delegations) {
                number(out, d.pattern);
                out.write(d.role);
                out.write(d.ends ? 1 : 0);
            }
            out.write(r.paths.size());
            r.paths.forEach(p -> number(out, p));
        }
        return out.toByteArray();
    }

    private static void number(ByteArrayOutputStream out, int n) {
        out.writeBytes(ByteBuffer.allocate(4).putInt(n).array());
    }

    static byte[] sha256(byte[] bytes) {
        try {
            return MessageDigest.getInstance("SHA-256").digest(bytes);
        } catch (NoSuchAlgorithmException e) {
            throw new IllegalStateException(e);
        }
    }
}

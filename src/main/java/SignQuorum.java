/** Signed rows of a package house, and a client that takes a row only if all rules hold. */
public final class SignQuorum {
    public static final int NONE = -1;

    private static final int ROOT = 0;
    private static final int TIME = 1;
    private static final int SNAPSHOT = 2;
    private static final int TARGETS = 3;
    private static final int FIRST_DELEGATED = 4;
    private static final int ROLE_COUNT = 10;

    private static final int MOST_KEYS = 20;
    private static final int MOST_ROWS = 24;
    private static final int MOST_OCTETS = 16;
    private static final int MOST_TOLD = ROLE_COUNT - TARGETS;
    private static final int MOST_DELEGATIONS = 6;
    private static final int MOST_PATHS = 6;
    private static final int MOST_SIGNATURES = 12;
    private static final int MOST_QUORUM = 9;
    private static final int MOST_VERSION = 1000000;

    private static final int MOST_PARTS = 6;
    private static final int PART_BITS = 4;
    private static final int ANY_PART = 15;
    private static final int HIGHEST_PATH_PART = 14;

    private static final int DIGEST_BYTES = 32;
    private static final int DIGEST_WORDS = 8;

    private final KeyRing ring = new KeyRing();
    private final Roster draft = new Roster();
    private final Row[] rows = new Row[MOST_ROWS];
    private int rowCount = 0;
    private final Client client = new Client();
    private final Sha256 sha = new Sha256();
    private final int[] toldDigest = new int[DIGEST_WORDS];

    public SignQuorum() {
    }

    public int key(long secret, long until) {
        return ring.add(secret, until);
    }

    public boolean quorum(int role, int n) {
        if (!isRole(role) || n < 1 || n > MOST_QUORUM) {
            return false;
        }
        draft.setNeeded(role, n);
        return true;
    }

    public boolean holds(int role, int key, boolean on) {
        if (!isRole(role) || !ring.has(key)) {
            return false;
        }
        draft.setMember(role, key, on);
        return true;
    }

    public int row(int role, int version, long until) {
        if (!isRole(role) || !isVersion(version) || rowCount >= rows.length) {
            return NONE;
        }
        Row made = new Row(rowCount, role, version, until);
        if (role == ROOT) {
            made.roster.copyFrom(draft);
        }
        rows[rowCount] = made;
        rowCount++;
        return made.number;
    }

    public int octet(int row, int b) {
        Row r = openRow(row);
        return r == null ? NONE : r.addOctet(b);
    }

    public boolean tells(int row, int role, int version) {
        Row r = openRow(row);
        if (r == null || !r.mayTellOf(role) || !isVersion(version)) {
            return false;
        }
        return r.told.put(role, version);
    }

    public int delegate(int row, int pattern, int to, boolean ends) {
        Row r = openRow(row);
        if (r == null || !r.tellsOfPaths() || partsOfPattern(pattern) == 0) {
            return NONE;
        }
        if (to < FIRST_DELEGATED || to >= ROLE_COUNT) {
            return NONE;
        }
        return r.delegations.add(pattern, to, ends);
    }

    public int lists(int row, int path) {
        Row r = openRow(row);
        if (r == null || !r.tellsOfPaths() || partsOfPath(path) == 0) {
            return NONE;
        }
        return r.addPath(path);
    }

    public long sign(int row, int key) {
        Row r = rowAt(row);
        if (r == null || !ring.has(key) || r.isFullySigned()) {
            return 0L;
        }
        long signature = rightSignature(r, key);
        r.addSignature(key, true);
        return signature;
    }

    public boolean forge(int row, int key, long signature) {
        Row r = rowAt(row);
        if (r == null || !ring.has(key) || r.isFullySigned()) {
            return false;
        }
        r.addSignature(key, signature == rightSignature(r, key));
        return true;
    }

    public int verify(int row, long t) {
        int broken = brokenRule(rowAt(row), t);
        return broken == 0 ? 1 : -broken;
    }

    public int update(int row, long t) {
        Row r = rowAt(row);
        int broken = brokenRule(r, t);
        if (broken != 0) {
            return -broken;
        }
        client.take(r);
        return 1;
    }

    public boolean revoke(int key) {
        return ring.has(key) && client.learnRevoked(key);
    }

    public int find(int path) {
        return partsOfPath(path) == 0 ? NONE : client.roleOfPath(path);
    }

    public int version(int role) {
        if (!isRole(role)) {
            return NONE;
        }
        Row r = client.currentOf(role);
        return r == null ? 0 : r.version;
    }

    public int current(int role) {
        Row r = client.currentOf(role);
        return r == null ? NONE : r.number;
    }

    public int hash(int row) {
        Row r = rowAt(row);
        if (r == null) {
            return NONE;
        }
        sha.begin();
        r.writeTo(sha);
        int length = sha.length();
        sha.finish();
        sha.copyWords(toldDigest);
        return length;
    }

    public byte digest(int i) throws ArrayIndexOutOfBoundsException {
        if (i < 0 || i >= DIGEST_BYTES) {
            throw new ArrayIndexOutOfBoundsException("i isn't 0 .. 31");
        }
        return (byte) (toldDigest[i >> 2] >>> (24 - 8 * (i & 3)));
    }

    public int about(int row, int what) {
        Row r = rowAt(row);
        if (r == null) {
            return NONE;
        }
        switch (what) {
            case 0: return r.role;
            case 1: return r.version;
            case 2: return r.signatureCount;
            case 3: return Integer.bitCount(r.rightKeys);
            case 4: return r.told.count;
            case 5: return r.delegations.count;
            case 6: return r.pathCount;
            default: return NONE;
        }
    }

    private Row rowAt(int number) {
        return number >= 0 && number < rows.length ? rows[number] : null;
    }

    /** The row if it may still be changed, else null. */
    private Row openRow(int number) {
        Row r = rowAt(number);
        return r == null || r.isClosed() ? null : r;
    }

    private int brokenRule(Row r, long t) {
        return client.firstBrokenRule(r, t, ring.unexpiredAt(t));
    }

    private long rightSignature(Row r, int key) {
        sha.begin();
        sha.putLong(ring.secretOf(key));
        r.writeTo(sha);
        sha.finish();
        return sha.firstEightBytes();
    }

    private static boolean isRole(int role) {
        return role >= 0 && role < ROLE_COUNT;
    }

    private static boolean isVersion(int version) {
        return version >= 1 && version <= MOST_VERSION;
    }

    private static int partsOfPath(int path) {
        return countParts(path, HIGHEST_PATH_PART);
    }

    private static int partsOfPattern(int pattern) {
        return countParts(pattern, ANY_PART);
    }

    /** How many parts the value has, or 0 if one of them isn't 1 .. highest or there are too many. */
    private static int countParts(int value, int highest) {
        if (value <= 0 || value >>> (MOST_PARTS * PART_BITS) != 0) {
            return 0;
        }
        for (int n = 0; n < MOST_PARTS; n++) {
            int rest = value >>> (n * PART_BITS);
            if (rest == 0) {
                return n;
            }
            int part = rest & ANY_PART;
            if (part == 0 || part > highest) {
                return 0;
            }
        }
        return MOST_PARTS;
    }

    private static boolean fits(int pattern, int path) {
        int patternParts = partsOfPattern(pattern);
        int further = partsOfPath(path) - patternParts;
        if (further < 0) {
            return false;
        }
        int head = path >>> (further * PART_BITS);
        for (int n = 0; n < patternParts; n++) {
            int wanted = (pattern >>> (n * PART_BITS)) & ANY_PART;
            int part = (head >>> (n * PART_BITS)) & ANY_PART;
            if (wanted != ANY_PART && wanted != part) {
                return false;
            }
        }
        return true;
    }

    /** All keys, by number. */
    private static final class KeyRing {
        private final long[] secrets = new long[MOST_KEYS];
        private final long[] untils = new long[MOST_KEYS];
        private int count = 0;

        int add(long secret, long until) {
            if (count >= MOST_KEYS) {
                return NONE;
            }
            secrets[count] = secret;
            untils[count] = until;
            count++;
            return count - 1;
        }

        boolean has(int number) {
            return number >= 0 && number < count;
        }

        long secretOf(int number) {
            return has(number) ? secrets[number] : 0L;
        }

        /** Bit k is set if the until of key k is above t. */
        int unexpiredAt(long t) {
            int set = 0;
            for (int k = 0; k < count; k++) {
                if (untils[k] > t) {
                    set |= 1 << k;
                }
            }
            return set;
        }
    }

    /** What roots say: for each role a quorum and a set of keys. */
    private static final class Roster {
        private final int[] needed = new int[ROLE_COUNT];
        private final int[] members = new int[ROLE_COUNT];

        Roster() {
            for (int role = 0; role < ROLE_COUNT; role++) {
                needed[role] = 1;
            }
        }

        void setNeeded(int role, int n) {
            if (isRole(role)) {
                needed[role] = n;
            }
        }

        void setMember(int role, int key, boolean on) {
            if (isRole(role)) {
                int bit = 1 << key;
                members[role] = on ? members[role] | bit : members[role] & ~bit;
            }
        }

        void copyFrom(Roster other) {
            for (int role = 0; role < ROLE_COUNT; role++) {
                needed[role] = other.needed[role];
                members[role] = other.members[role];
            }
        }

        boolean isMetBy(int keySet, int role) {
            return isRole(role) && Integer.bitCount(keySet & members[role]) >= needed[role];
        }

        void writeTo(Sha256 sha) {
            for (int role = 0; role < ROLE_COUNT; role++) {
                sha.putByte(needed[role]);
                sha.putInt(members[role]);
            }
        }
    }

    /** The versions of roles that a row tells, in the order in which the roles were told first. */
    private static final class Told {
        private final int[] roles = new int[MOST_TOLD];
        private final int[] versions = new int[MOST_TOLD];
        private int count = 0;

        boolean put(int role, int version) {
            int place = placeOf(role);
            if (place >= MOST_TOLD) {
                return false;
            }
            roles[place] = role;
            versions[place] = version;
            count = Math.max(count, place + 1);
            return true;
        }

        /** The version told of a role, or 0, which is below every version. */
        int versionOf(int role) {
            int place = placeOf(role);
            return place < count ? versions[place] : 0;
        }

        boolean keepsAllOf(Told older) {
            for (int i = 0; i < older.count; i++) {
                if (versionOf(older.roles[i]) < older.versions[i]) {
                    return false;
                }
            }
            return true;
        }

        void writeTo(Sha256 sha) {
            sha.putByte(count);
            for (int i = 0; i < count; i++) {
                sha.putByte(roles[i]);
                sha.putInt(versions[i]);
            }
        }

        /** Where the role stands, or the place behind the last one. */
        private int placeOf(int role) {
            for (int i = 0; i < count; i++) {
                if (roles[i] == role) {
                    return i;
                }
            }
            return count;
        }
    }

    private static final class Delegations {
        private final int[] patterns = new int[MOST_DELEGATIONS];
        private final int[] targets = new int[MOST_DELEGATIONS];
        private final boolean[] ending = new boolean[MOST_DELEGATIONS];
        private int count = 0;

        int add(int pattern, int to, boolean ends) {
            if (count >= MOST_DELEGATIONS) {
                return NONE;
            }
            patterns[count] = pattern;
            targets[count] = to;
            ending[count] = ends;
            count++;
            return count;
        }

        void writeTo(Sha256 sha) {
            sha.putByte(count);
            for (int i = 0; i < count; i++) {
                sha.putInt(patterns[i]);
                sha.putByte(targets[i]);
                sha.putByte(ending[i] ? 1 : 0);
            }
        }
    }

    /** A row of any role; the parts that its role doesn't have stay empty. */
    private static final class Row {
        private final int number;
        private final int role;
        private final int version;
        private final long until;
        private final byte[] octets = new byte[MOST_OCTETS];
        private int octetCount = 0;
        private final Roster roster = new Roster();
        private final Told told = new Told();
        private final Delegations delegations = new Delegations();
        private final int[] paths = new int[MOST_PATHS];
        private int pathCount = 0;
        private int signatureCount = 0;
        // A signed row is closed, so whether a signature is right is settled when it is put down.
        private int rightKeys = 0;

        Row(int number, int role, int version, long until) {
            this.number = number;
            this.role = role;
            this.version = version;
            this.until = until;
        }

        boolean isClosed() {
            return signatureCount > 0;
        }

        boolean isFullySigned() {
            return signatureCount >= MOST_SIGNATURES;
        }

        boolean isAliveAt(long t) {
            return until > t;
        }

        boolean tellsOfPaths() {
            return role >= TARGETS;
        }

        boolean mayTellOf(int other) {
            if (role == TIME) {
                return other == SNAPSHOT;
            }
            return role == SNAPSHOT && other >= TARGETS && other < ROLE_COUNT;
        }

        int addOctet(int b) {
            if (octetCount >= MOST_OCTETS) {
                return NONE;
            }
            octets[octetCount] = (byte) b;
            octetCount++;
            return octetCount;
        }

        int addPath(int path) {
            if (pathCount >= MOST_PATHS) {
                return NONE;
            }
            paths[pathCount] = path;
            pathCount++;
            return pathCount;
        }

        boolean hasPath(int path) {
            for (int i = 0; i < pathCount; i++) {
                if (paths[i] == path) {
                    return true;
                }
            }
            return false;
        }

        void addSignature(int key, boolean right) {
            signatureCount++;
            if (right) {
                rightKeys |= 1 << key;
            }
        }

        void writeTo(Sha256 sha) {
            sha.putByte(role);
            sha.putInt(version);
            sha.putLong(until);
            sha.putByte(octetCount);
            for (int i = 0; i < octetCount; i++) {
                sha.putByte(octets[i]);
            }
            if (role == ROOT) {
                roster.writeTo(sha);
            } else if (tellsOfPaths()) {
                delegations.writeTo(sha);
                writePathsTo(sha);
            } else {
                told.writeTo(sha);
            }
        }

        private void writePathsTo(Sha256 sha) {
            sha.putByte(pathCount);
            for (int i = 0; i < pathCount; i++) {
                sha.putInt(paths[i]);
            }
        }
    }

    /** What the client has taken and knows, and the rules by which it takes more. */
    private static final class Client {
        // Told apart from NONE, since an ending delegation stops the searches above it too.
        private static final int OVER = -2;

        private final Row[] currentRows = new Row[ROLE_COUNT];
        private int revokedKeys = 0;
        private int searchedRoles = 0;

        Row currentOf(int role) {
            return isRole(role) ? currentRows[role] : null;
        }

        void take(Row row) {
            if (row != null && isRole(row.role)) {
                currentRows[row.role] = row;
            }
        }

        boolean learnRevoked(int key) {
            int bit = 1 << key;
            if ((revokedKeys & bit) != 0) {
                return false;
            }
            revokedKeys |= bit;
            return true;
        }

        /** The number of the first rule that doesn't hold at t, where bit k of unexpired is key k, or 0 if all hold. */
        int firstBrokenRule(Row row, long t, int unexpired) {
            if (row == null) {
                return 1;
            }
            Row root = currentOf(ROOT);
            int live = unexpired & ~revokedKeys;
            if (row.role != ROOT && (root == null || !root.isAliveAt(t))) {
                return 2;
            }
            if (root != null && !hasQuorum(row, root, live)) {
                return 3;
            }
            if (row.role == ROOT && !hasQuorum(row, row, live)) {
                return 4;
            }
            if (!hasFollowingVersion(row)) {
                return 5;
            }
            if (!row.isAliveAt(t)) {
                return 6;
            }
            if (!isToldAsNeeded(row, t)) {
                return 7;
            }
            return keepsWhatWasTold(row) ? 0 : 8;
        }

        private static boolean hasQuorum(Row row, Row root, int live) {
            return root.roster.isMetBy(row.rightKeys & live, row.role);
        }

        private boolean hasFollowingVersion(Row row) {
            Row before = currentOf(row.role);
            if (before == null) {
                return true;
            }
            return row.role == ROOT ? row.version == before.version + 1 : row.version >= before.version;
        }

        private boolean isToldAsNeeded(Row row, long t) {
            if (row.role == ROOT || row.role == TIME) {
                return true;
            }
            Row teller = currentOf(row.role == SNAPSHOT ? TIME : SNAPSHOT);
            return teller != null && teller.isAliveAt(t) && teller.told.versionOf(row.role) == row.version;
        }

        private boolean keepsWhatWasTold(Row row) {
            if (row.role != SNAPSHOT) {
                return true;
            }
            Row before = currentOf(SNAPSHOT);
            return before == null || row.told.keepsAllOf(before.told);
        }

        int roleOfPath(int path) {
            searchedRoles = 0;
            int answer = search(TARGETS, path, 0);
            return answer == OVER ? NONE : answer;
        }

        /** The role that lists the path, NONE if the search goes on elsewhere, OVER if it must not. */
        private int search(int role, int path, int depth) {
            Row row = currentOf(role);
            if (row == null || depth >= ROLE_COUNT) {
                return NONE;
            }
            searchedRoles |= 1 << role;
            if (row.hasPath(path)) {
                return role;
            }
            return followDelegations(row.delegations, path, depth);
        }

        private int followDelegations(Delegations given, int path, int depth) {
            for (int i = 0; i < given.count; i++) {
                if (!fits(given.patterns[i], path)) {
                    continue;
                }
                int to = given.targets[i];
                int answer = isSearched(to) ? NONE : search(to, path, depth + 1);
                if (answer != NONE) {
                    return answer;
                }
                if (given.ending[i]) {
                    return OVER;
                }
            }
            return NONE;
        }

        private boolean isSearched(int role) {
            return (searchedRoles & (1 << role)) != 0;
        }
    }

    /** SHA-256 (FIPS 180-4) of one short message at a time, in rows that are used again. */
    private static final class Sha256 {
        private static final int BLOCK_BYTES = 64;
        private static final int ROUNDS = 64;
        // The longest message is a secret and a full row of paths, 100 bytes: two blocks hold it.
        private static final int MOST_BYTES = 2 * BLOCK_BYTES;
        // Behind a message stand one byte 0x80 and its length in eight.
        private static final int CLOSING_BYTES = 9;

        private static final int[] FIRST_STATE = {
            0x6a09e667, 0xbb67ae85, 0x3c6ef372, 0xa54ff53a, 0x510e527f, 0x9b05688c, 0x1f83d9ab, 0x5be0cd19
        };

        private static final int[] ROUND_CONSTANTS = {
            0x428a2f98, 0x71374491, 0xb5c0fbcf, 0xe9b5dba5, 0x3956c25b, 0x59f111f1, 0x923f82a4, 0xab1c5ed5,
            0xd807aa98, 0x12835b01, 0x243185be, 0x550c7dc3, 0x72be5d74, 0x80deb1fe, 0x9bdc06a7, 0xc19bf174,
            0xe49b69c1, 0xefbe4786, 0x0fc19dc6, 0x240ca1cc, 0x2de92c6f, 0x4a7484aa, 0x5cb0a9dc, 0x76f988da,
            0x983e5152, 0xa831c66d, 0xb00327c8, 0xbf597fc7, 0xc6e00bf3, 0xd5a79147, 0x06ca6351, 0x14292967,
            0x27b70a85, 0x2e1b2138, 0x4d2c6dfc, 0x53380d13, 0x650a7354, 0x766a0abb, 0x81c2c92e, 0x92722c85,
            0xa2bfe8a1, 0xa81a664b, 0xc24b8b70, 0xc76c51a3, 0xd192e819, 0xd6990624, 0xf40e3585, 0x106aa070,
            0x19a4c116, 0x1e376c08, 0x2748774c, 0x34b0bcb5, 0x391c0cb3, 0x4ed8aa4a, 0x5b9cca4f, 0x682e6ff3,
            0x748f82ee, 0x78a5636f, 0x84c87814, 0x8cc70208, 0x90befffa, 0xa4506ceb, 0xbef9a3f7, 0xc67178f2
        };

        private final byte[] message = new byte[MOST_BYTES];
        private final int[] schedule = new int[ROUNDS];
        private final int[] state = new int[DIGEST_WORDS];
        private int length = 0;

        void begin() {
            length = 0;
        }

        int length() {
            return length;
        }

        void putByte(int b) {
            if (length < MOST_BYTES - CLOSING_BYTES) {
                message[length] = (byte) b;
                length++;
            }
        }

        void putInt(int number) {
            for (int shift = 24; shift >= 0; shift -= 8) {
                putByte(number >>> shift);
            }
        }

        void putLong(long number) {
            putInt((int) (number >>> 32));
            putInt((int) number);
        }

        void finish() {
            int end = length + CLOSING_BYTES <= BLOCK_BYTES ? BLOCK_BYTES : MOST_BYTES;
            closeMessage(end);
            System.arraycopy(FIRST_STATE, 0, state, 0, DIGEST_WORDS);
            for (int from = 0; from < end; from += BLOCK_BYTES) {
                fillSchedule(from);
                mixBlock();
            }
        }

        void copyWords(int[] target) {
            if (target != null && target.length >= DIGEST_WORDS) {
                System.arraycopy(state, 0, target, 0, DIGEST_WORDS);
            }
        }

        long firstEightBytes() {
            return ((long) state[0] << 32) | (state[1] & 0xffffffffL);
        }

        private void closeMessage(int end) {
            message[length] = (byte) 0x80;
            for (int i = length + 1; i < end; i++) {
                message[i] = 0;
            }
            int bits = length * 8;
            message[end - 2] = (byte) (bits >>> 8);
            message[end - 1] = (byte) bits;
        }

        private void fillSchedule(int from) {
            for (int t = 0; t < 16; t++) {
                int at = from + 4 * t;
                schedule[t] = (message[at] & 0xff) << 24 | (message[at + 1] & 0xff) << 16
                    | (message[at + 2] & 0xff) << 8 | (message[at + 3] & 0xff);
            }
            for (int t = 16; t < ROUNDS; t++) {
                int x = schedule[t - 15];
                int y = schedule[t - 2];
                int s0 = Integer.rotateRight(x, 7) ^ Integer.rotateRight(x, 18) ^ (x >>> 3);
                int s1 = Integer.rotateRight(y, 17) ^ Integer.rotateRight(y, 19) ^ (y >>> 10);
                schedule[t] = schedule[t - 16] + s0 + schedule[t - 7] + s1;
            }
        }

        private void mixBlock() {
            int a = state[0];
            int b = state[1];
            int c = state[2];
            int d = state[3];
            int e = state[4];
            int f = state[5];
            int g = state[6];
            int h = state[7];
            for (int t = 0; t < ROUNDS; t++) {
                int s1 = Integer.rotateRight(e, 6) ^ Integer.rotateRight(e, 11) ^ Integer.rotateRight(e, 25);
                int choice = (e & f) ^ (~e & g);
                int one = h + s1 + choice + ROUND_CONSTANTS[t] + schedule[t];
                int s0 = Integer.rotateRight(a, 2) ^ Integer.rotateRight(a, 13) ^ Integer.rotateRight(a, 22);
                int majority = (a & b) ^ (a & c) ^ (b & c);
                h = g;
                g = f;
                f = e;
                e = d + one;
                d = c;
                c = b;
                b = a;
                a = one + s0 + majority;
            }
            state[0] += a;
            state[1] += b;
            state[2] += c;
            state[3] += d;
            state[4] += e;
            state[5] += f;
            state[6] += g;
            state[7] += h;
        }
    }
}

import java.util.HexFormat;

/** The promises of the document, one method each: ordinary inputs, the edges that it names, wrong inputs. */
public final class PromisesTest {
    private static final int[] NO_ROLES = House.NO_ROLES;
    private static final int[] NO_VERSIONS = House.NO_VERSIONS;
    private static final long FAR = House.FAR;

    private static final Check CHECK = new Check();

    public static void main(String[] args) {
        newObject();
        key();
        quorum();
        holds();
        row();
        octet();
        tells();
        delegate();
        lists();
        sign();
        forge();
        verifyRootAndQuorum();
        verifyKeysThatCount();
        verifyVersionAndLife();
        verifySnapshotAndTold();
        verifyOrder();
        verifyAndFindWhereAllIsFull();
        update();
        revoke();
        find();
        findAlongDelegations();
        version();
        current();
        hash();
        digest();
        about();
        CHECK.end();
    }

    private static SignQuorum house() {
        return House.withRoot(CHECK);
    }

    private static SignQuorum houseWithSnapshot() {
        return House.withSnapshot(CHECK);
    }

    private static int signed(SignQuorum x, int role, int version, long until) {
        return House.signed(x, role, version, until);
    }

    private static void take(SignQuorum x, int row) {
        House.take(CHECK, x, row);
    }

    private static void bytesAre(String what, SignQuorum x, int row, String hex) {
        Bytes.are(CHECK, what, x, row, hex);
    }

    private static void digestIs(String what, SignQuorum x, String hex) {
        Bytes.digestIs(CHECK, what, x, hex);
    }

    private static boolean digestThrows(SignQuorum x, int i) {
        try {
            x.digest(i);
            return false;
        } catch (ArrayIndexOutOfBoundsException e) {
            // The machine's own text: it must never be the machine that throws.
            CHECK.no("digest(" + i + ") is thrown by the machine", e.getMessage().contains("out of bounds"));
            return true;
        }
    }

    private static void newObject() {
        SignQuorum x = new SignQuorum();
        CHECK.same("NONE", SignQuorum.NONE, -1);
        for (int i = 0; i < 32; i++) {
            CHECK.same("new: digest(" + i + ")", x.digest(i), 0);
        }
        CHECK.no("new: holds(0, 0, true)", x.holds(0, 0, true));
        CHECK.no("new: revoke(0)", x.revoke(0));
        CHECK.same("new: about(0, 0)", x.about(0, 0), -1);
        CHECK.same("new: verify(0, 0)", x.verify(0, 0), -1);
        for (int role = 0; role <= 9; role++) {
            CHECK.same("new: version(" + role + ")", x.version(role), 0);
            CHECK.same("new: current(" + role + ")", x.current(role), -1);
        }
        CHECK.same("new: find(1)", x.find(1), -1);
    }

    private static void key() {
        SignQuorum x = new SignQuorum();
        for (int k = 0; k < 20; k++) {
            CHECK.same("key " + k, x.key(5, k % 2 == 0 ? Long.MIN_VALUE : Long.MAX_VALUE), k);
        }
        CHECK.same("key 20", x.key(1, 1), -1);
        CHECK.same("key 21", x.key(2, 2), -1);
        CHECK.yes("the last key is there", x.holds(0, 19, true));
        CHECK.no("no key behind it", x.holds(0, 20, true));
    }

    private static void quorum() {
        SignQuorum x = new SignQuorum();
        for (int role = 0; role <= 9; role++) {
            CHECK.yes("quorum(" + role + ", 1)", x.quorum(role, 1));
            CHECK.yes("quorum(" + role + ", 9)", x.quorum(role, 9));
        }
        for (int n : new int[] {0, 10, -1, Integer.MIN_VALUE, Integer.MAX_VALUE}) {
            CHECK.no("quorum(0, " + n + ")", x.quorum(0, n));
        }
        for (int role : NO_ROLES) {
            CHECK.no("quorum(" + role + ", 1)", x.quorum(role, 1));
        }
        for (int role = 1; role <= 9; role++) {
            x.quorum(role, role);
        }
        x.row(0, 1, 0);
        bytesAre("quorums", x, 0, "00" + "00000001" + "0000000000000000" + "00"
            + "0900000000" + "0100000000" + "0200000000" + "0300000000" + "0400000000"
            + "0500000000" + "0600000000" + "0700000000" + "0800000000" + "0900000000");
    }

    private static void holds() {
        SignQuorum x = new SignQuorum();
        for (int k = 0; k < 20; k++) {
            x.key(k, k);
        }
        CHECK.yes("holds(0, 0, true)", x.holds(0, 0, true));
        CHECK.yes("holds(0, 0, true) again", x.holds(0, 0, true));
        CHECK.yes("holds(0, 19, true)", x.holds(0, 19, true));
        CHECK.yes("holds(9, 8, true)", x.holds(9, 8, true));
        CHECK.yes("holds(9, 1, true)", x.holds(9, 1, true));
        CHECK.yes("holds(9, 1, false)", x.holds(9, 1, false));
        CHECK.yes("holds(5, 3, false) of one that isn't in", x.holds(5, 3, false));
        CHECK.no("holds(0, -1, true)", x.holds(0, -1, true));
        CHECK.no("holds(0, 20, true)", x.holds(0, 20, true));
        CHECK.no("holds(0, 32, true)", x.holds(0, 32, true));
        for (int role : NO_ROLES) {
            CHECK.no("holds(" + role + ", 0, true)", x.holds(role, 0, true));
        }
        x.row(0, 1, 0);
        bytesAre("sets", x, 0, "00" + "00000001" + "0000000000000000" + "00" + "0100080001"
            + "0100000000".repeat(8) + "0100000100");
    }

    private static void row() {
        SignQuorum x = new SignQuorum();
        for (int role : NO_ROLES) {
            CHECK.same("row(" + role + ", 1, 1)", x.row(role, 1, 1), -1);
        }
        for (int version : NO_VERSIONS) {
            CHECK.same("row(0, " + version + ", 1)", x.row(0, version, 1), -1);
        }
        for (int i = 0; i < 24; i++) {
            int version = i % 2 == 0 ? 1 : 1000000;
            CHECK.same("row " + i, x.row(i % 10, version, -i), i);
            CHECK.same("role of row " + i, x.about(i, 0), i % 10);
            CHECK.same("version of row " + i, x.about(i, 1), version);
        }
        CHECK.same("row 24", x.row(0, 1, 1), -1);
        CHECK.same("about(24, 0)", x.about(24, 0), -1);
        rootHasTheDraftOfItsTime();
    }

    private static void rootHasTheDraftOfItsTime() {
        SignQuorum x = new SignQuorum();
        x.key(1, FAR);
        x.row(0, 1, FAR);
        x.holds(0, 0, true);
        x.quorum(0, 1);
        x.row(0, 1, FAR);
        x.holds(0, 0, false);
        x.quorum(0, 2);
        x.row(0, 1, FAR);
        String head = "00" + "00000001" + "00000000000003e8" + "00";
        String tail = "0100000000".repeat(9);
        bytesAre("draft before", x, 0, head + "0100000000" + tail);
        bytesAre("draft between", x, 1, head + "0100000001" + tail);
        bytesAre("draft after", x, 2, head + "0200000000" + tail);
    }

    private static void octet() {
        SignQuorum x = new SignQuorum();
        x.key(1, 1);
        x.row(1, 2, -1);
        StringBuilder octets = new StringBuilder();
        for (int i = 0; i < 16; i++) {
            CHECK.same("octet " + i, x.octet(0, 0x7f0 + 0x100 * i + i), i + 1);
            octets.append("f").append(Integer.toHexString(i));
        }
        CHECK.same("octet 16", x.octet(0, 1), -1);
        bytesAre("octets", x, 0, "01" + "00000002" + "ffffffffffffffff" + "10" + octets + "00");
        for (int row : new int[] {-1, 1, 24, Integer.MIN_VALUE, Integer.MAX_VALUE}) {
            CHECK.same("octet(" + row + ", 0)", x.octet(row, 0), -1);
        }
        x.row(0, 1, 1);
        CHECK.same("octet of an open row", x.octet(1, -1), 1);
        x.forge(1, 0, 3);
        CHECK.same("octet of a closed row", x.octet(1, 0), -1);
    }

    private static void tells() {
        SignQuorum x = new SignQuorum();
        x.key(1, 1);
        for (int role = 0; role <= 9; role++) {
            x.row(role, 1, 0);
        }
        for (int row = 0; row <= 9; row++) {
            for (int role = -1; role <= 10; role++) {
                boolean may = row == 1 && role == 2 || row == 2 && role >= 3 && role <= 9;
                CHECK.same("tells(" + row + ", " + role + ", 1)", x.tells(row, role, 1) ? 1 : 0, may ? 1 : 0);
            }
            CHECK.same("about(" + row + ", 4)", x.about(row, 4), row == 1 ? 1 : row == 2 ? 7 : 0);
        }
        for (int version : NO_VERSIONS) {
            CHECK.no("tells(1, 2, " + version + ")", x.tells(1, 2, version));
        }
        CHECK.yes("tells(1, 2, 1000000)", x.tells(1, 2, 1000000));
        CHECK.no("tells(10, 2, 1)", x.tells(10, 2, 1));
        CHECK.no("tells(-1, 2, 1)", x.tells(-1, 2, 1));
        CHECK.same("another version in place of the first", x.about(1, 4), 1);
        bytesAre("told by time", x, 1, "01" + "00000001" + "0000000000000000" + "00" + "01" + "02000f4240");
        tellsInOrder(x);
        x.sign(1, 0);
        CHECK.no("tells of a closed row", x.tells(1, 2, 1));
    }

    private static void tellsInOrder(SignQuorum x) {
        int row = x.row(2, 1, 0);
        CHECK.no("a row that tells nothing yet tells of 2", x.tells(row, 2, 1));
        CHECK.no("a row that tells nothing yet tells of 10", x.tells(row, 10, 1));
        CHECK.yes("tells of 7", x.tells(row, 7, 1));
        CHECK.yes("tells of 3", x.tells(row, 3, 2));
        CHECK.yes("tells of 9", x.tells(row, 9, 3));
        CHECK.yes("tells of 3 again", x.tells(row, 3, 1));
        CHECK.yes("tells of 7 again", x.tells(row, 7, 9));
        bytesAre("told in the order of the first time", x, row, "02" + "00000001" + "0000000000000000" + "00"
            + "03" + "0700000009" + "0300000001" + "0900000003");
    }

    private static void delegate() {
        SignQuorum x = new SignQuorum();
        x.key(1, 1);
        for (int role = 0; role <= 9; role++) {
            int row = x.row(role, 1, 0);
            CHECK.same("delegate of role " + role, x.delegate(row, 1, 4, true), role < 3 ? -1 : 1);
        }
        for (int pattern : new int[] {0, -1, 0x10, 0x101, 0xf0f, 0x1000000, 0x1111111, 0xffffff0, 0x110000,
            Integer.MIN_VALUE, Integer.MAX_VALUE}) {
            CHECK.same("delegate(4, " + pattern + ", 4, true)", x.delegate(4, pattern, 4, true), -1);
        }
        for (int to : new int[] {-1, 0, 1, 2, 3, 10, Integer.MIN_VALUE, Integer.MAX_VALUE}) {
            CHECK.same("delegate(4, 1, " + to + ", true)", x.delegate(4, 1, to, true), -1);
        }
        CHECK.same("delegate(10, 1, 4, true)", x.delegate(10, 1, 4, true), -1);
        CHECK.same("delegate(-1, 1, 4, true)", x.delegate(-1, 1, 4, true), -1);
        CHECK.same("delegation 2", x.delegate(3, 0xf, 9, false), 2);
        CHECK.same("delegation 3", x.delegate(3, 0xffffff, 4, true), 3);
        CHECK.same("delegation 4", x.delegate(3, 0x1e2f31, 5, false), 4);
        CHECK.same("delegation 5", x.delegate(3, 1, 4, true), 5);
        CHECK.same("delegation 6", x.delegate(3, 0x12, 6, true), 6);
        CHECK.same("delegation 7", x.delegate(3, 1, 4, true), -1);
        bytesAre("delegations", x, 3, "03" + "00000001" + "0000000000000000" + "00" + "06"
            + "000000010401" + "0000000f0900" + "00ffffff0401" + "001e2f310500" + "000000010401" + "000000120601"
            + "00");
        x.sign(4, 0);
        CHECK.same("delegate of a closed row", x.delegate(4, 1, 4, true), -1);
        CHECK.same("about(4, 5)", x.about(4, 5), 1);
    }

    private static void lists() {
        SignQuorum x = new SignQuorum();
        x.key(1, 1);
        for (int role = 0; role <= 9; role++) {
            int row = x.row(role, 1, 0);
            CHECK.same("lists of role " + role, x.lists(row, 1), role < 3 ? -1 : 1);
        }
        for (int path : new int[] {0, -1, 0xf, 0x1f, 0xf1, 0x10, 0x101, 0x1000000, 0x1111111, 0xfffffff,
            0x11111f, 0xf11111, Integer.MIN_VALUE, Integer.MAX_VALUE}) {
            CHECK.same("lists(4, " + path + ")", x.lists(4, path), -1);
        }
        CHECK.same("lists(10, 1)", x.lists(10, 1), -1);
        CHECK.same("lists(-1, 1)", x.lists(-1, 1), -1);
        CHECK.same("path 2, the first again", x.lists(9, 1), 2);
        CHECK.same("path 3", x.lists(9, 0xeeeeee), 3);
        CHECK.same("path 4", x.lists(9, 0x123456), 4);
        CHECK.same("path 5", x.lists(9, 0xe), 5);
        CHECK.same("path 6", x.lists(9, 0x12), 6);
        CHECK.same("path 7", x.lists(9, 1), -1);
        bytesAre("paths", x, 9, "09" + "00000001" + "0000000000000000" + "00" + "00" + "06"
            + "00000001" + "00000001" + "00eeeeee" + "00123456" + "0000000e" + "00000012");
        x.sign(4, 0);
        CHECK.same("lists of a closed row", x.lists(4, 1), -1);
        CHECK.same("about(4, 6)", x.about(4, 6), 1);
    }

    private static void sign() {
        SignQuorum x = new SignQuorum();
        x.key(0x0123456789abcdefL, 1);
        x.key(-2, 1);
        x.row(1, 1, 0);
        String bytes = "01" + "00000001" + "0000000000000000" + "00" + "00";
        long first = Bytes.signature(0x0123456789abcdefL, bytes);
        CHECK.same("sign(0, 0)", x.sign(0, 0), first);
        CHECK.same("sign(0, 1)", x.sign(0, 1), Bytes.signature(-2, bytes));
        CHECK.same("the digest that is told stays", x.digest(0), 0);
        CHECK.same("sign(0, 0) again", x.sign(0, 0), first);
        CHECK.same("three signatures", x.about(0, 2), 3);
        CHECK.same("sign(1, 0)", x.sign(1, 0), 0);
        CHECK.same("sign(-1, 0)", x.sign(-1, 0), 0);
        CHECK.same("sign(0, 2)", x.sign(0, 2), 0);
        CHECK.same("sign(0, -1)", x.sign(0, -1), 0);
        CHECK.same("still three", x.about(0, 2), 3);
        for (int i = 3; i < 12; i++) {
            CHECK.same("signature " + i, x.sign(0, 0), first);
        }
        CHECK.same("signature 12", x.sign(0, 0), 0);
        CHECK.same("twelve signatures", x.about(0, 2), 12);
        signTheLongestRow();
    }

    private static void signTheLongestRow() {
        SignQuorum x = new SignQuorum();
        x.key(0, 1);
        x.row(3, 1, 0);
        for (int i = 0; i < 16; i++) {
            x.octet(0, i);
        }
        for (int i = 0; i < 6; i++) {
            x.delegate(0, 0xffffff, 9, true);
            x.lists(0, 0xeeeeee);
        }
        String bytes = "03" + "00000001" + "0000000000000000" + "10" + "000102030405060708090a0b0c0d0e0f"
            + "06" + "00ffffff0901".repeat(6) + "06" + "00eeeeee".repeat(6);
        bytesAre("the longest row", x, 0, bytes);
        CHECK.same("sign of the longest row", x.sign(0, 0), Bytes.signature(0, bytes));
    }

    private static void forge() {
        SignQuorum x = house();
        int time = x.row(1, 1, FAR);
        CHECK.yes("forge of a wrong number", x.forge(time, 0, 1));
        CHECK.same("a wrong one closes the row", x.octet(time, 1), -1);
        CHECK.same("a wrong one counts", x.about(time, 2), 1);
        CHECK.same("a wrong one isn't right", x.about(time, 3), 0);
        CHECK.same("a wrong one says nothing", x.verify(time, 0), -3);
        long right = Bytes.signature(11, "01" + "00000001" + "00000000000003e8" + "00" + "00");
        CHECK.yes("forge of one bit more", x.forge(time, 0, right ^ 1));
        CHECK.yes("forge of the highest bit", x.forge(time, 0, right ^ Long.MIN_VALUE));
        CHECK.same("neither is right", x.about(time, 3), 0);
        CHECK.yes("forge of the right number", x.forge(time, 0, right));
        CHECK.same("that is right", x.about(time, 3), 1);
        CHECK.same("that counts", x.verify(time, 0), 1);
        CHECK.no("forge of no row", x.forge(2, 0, right));
        CHECK.no("forge of row -1", x.forge(-1, 0, right));
        CHECK.no("forge of no key", x.forge(time, 1, right));
        CHECK.no("forge of key -1", x.forge(time, -1, right));
        CHECK.same("four signatures", x.about(time, 2), 4);
        for (int i = 4; i < 12; i++) {
            CHECK.yes("forge " + i, x.forge(time, 0, i));
        }
        CHECK.no("forge 12", x.forge(time, 0, right));
        CHECK.same("sign 12", x.sign(time, 0), 0);
        CHECK.same("twelve signatures", x.about(time, 2), 12);
        CHECK.same("wrong ones behind a right one", x.verify(time, 0), 1);
    }

    private static void verifyRootAndQuorum() {
        SignQuorum x = new SignQuorum();
        x.key(1, FAR);
        x.key(2, FAR);
        for (int role = 0; role <= 9; role++) {
            x.holds(role, 0, true);
        }
        for (int row : new int[] {-1, 0, 24, Integer.MIN_VALUE, Integer.MAX_VALUE}) {
            CHECK.same("rule 1: verify(" + row + ", 0)", x.verify(row, 0), -1);
        }
        int time = signed(x, 1, 1, FAR);
        CHECK.same("rule 2: no root", x.verify(time, 0), -2);
        int root = x.row(0, 5, 10);
        CHECK.same("rule 4: no signature", x.verify(root, 0), -4);
        x.sign(root, 1);
        CHECK.same("rule 4: one that isn't in the set", x.verify(root, 0), -4);
        x.sign(root, 0);
        CHECK.same("any version of the first root", x.verify(root, 0), 1);
        CHECK.same("verify takes nothing", x.current(0), -1);
        x.update(root, 0);
        CHECK.same("rule 2: the root is alive", x.verify(time, 9), 1);
        CHECK.same("rule 2: the root isn't alive", x.verify(time, 10), -2);

        x.holds(0, 0, false);
        x.holds(0, 1, true);
        int next = x.row(0, 6, FAR);
        x.sign(next, 1);
        CHECK.same("rule 3: not by the current root", x.verify(next, 0), -3);
        x.sign(next, 0);
        CHECK.same("by both roots", x.verify(next, 0), 1);
        CHECK.same("by a current root that isn't alive", x.update(next, 11), 1);
        int third = x.row(0, 7, FAR);
        x.sign(third, 0);
        CHECK.same("rule 3: by keys of an older root", x.verify(third, 0), -3);
        x.holds(0, 0, true);
        x.holds(0, 1, false);
        int fourth = x.row(0, 7, FAR);
        x.sign(fourth, 1);
        CHECK.same("rule 4: not by itself", x.verify(fourth, 0), -4);
        CHECK.same("root by itself alone", rootQuorumOfItself(), 1);
    }

    private static int rootQuorumOfItself() {
        SignQuorum x = new SignQuorum();
        for (int k = 0; k < 9; k++) {
            x.key(k, FAR);
            x.holds(0, k, true);
        }
        x.quorum(0, 9);
        int root = x.row(0, 1, FAR);
        x.quorum(0, 1);
        for (int k = 0; k < 8; k++) {
            x.sign(root, k);
        }
        CHECK.same("rule 4: eight of nine", x.verify(root, 0), -4);
        x.sign(root, 8);
        return x.verify(root, 0);
    }

    private static void verifyKeysThatCount() {
        SignQuorum x = new SignQuorum();
        x.key(1, FAR);
        x.key(1, 50);
        x.key(3, FAR);
        x.holds(0, 0, true);
        x.holds(1, 0, true);
        x.holds(1, 1, true);
        x.quorum(1, 2);
        take(x, x.row(0, 1, FAR));
        x.holds(1, 2, true);
        x.quorum(1, 1);
        int time = signed(x, 1, 1, FAR);
        CHECK.same("rule 3: one of two", x.verify(time, 0), -3);
        x.sign(time, 0);
        CHECK.same("rule 3: twice the same", x.verify(time, 0), -3);
        x.sign(time, 2);
        CHECK.same("rule 3: one that is in the draft alone", x.verify(time, 0), -3);
        x.forge(time, 1, 5);
        CHECK.same("rule 3: a wrong signature", x.verify(time, 0), -3);
        x.sign(time, 1);
        CHECK.same("two keys, though of one secret", x.verify(time, 0), 1);
        CHECK.same("a key lives below its until", x.verify(time, 49), 1);
        CHECK.same("rule 3: a key doesn't live at its until", x.verify(time, 50), -3);
        x.revoke(1);
        CHECK.same("rule 3: a revoked key", x.verify(time, 0), -3);
        firstKeyDies();
    }

    private static void firstKeyDies() {
        SignQuorum x = new SignQuorum();
        x.key(1, 5);
        x.holds(0, 0, true);
        signed(x, 0, 1, FAR);
        CHECK.same("rule 4: the first key at its until", x.verify(0, 5), -4);
        CHECK.same("the first key below its until", x.verify(0, 4), 1);
    }

    private static void verifyVersionAndLife() {
        SignQuorum x = house();
        CHECK.same("rule 5: the current root again", x.verify(0, 0), -5);
        CHECK.same("rule 5: the root behind the next", x.verify(signed(x, 0, 3, FAR), 0), -5);
        CHECK.same("the next root", x.verify(signed(x, 0, 2, FAR), 0), 1);
        CHECK.same("rule 6: a root at its until", x.verify(signed(x, 0, 2, 7), 7), -6);
        CHECK.same("a root below its until", x.verify(signed(x, 0, 2, 7), 6), 1);
        take(x, x.row(1, 5, FAR));
        CHECK.same("the same version of time", x.verify(signed(x, 1, 5, FAR), 0), 1);
        CHECK.same("a far higher version of time", x.verify(signed(x, 1, 1000000, FAR), 0), 1);
        CHECK.same("rule 5: a lower version of time", x.verify(signed(x, 1, 4, FAR), 0), -5);
        CHECK.same("rule 6: a time row at its until", x.verify(signed(x, 1, 5, 7), 7), -6);
        CHECK.same("rule 6: the lowest until", x.verify(signed(x, 1, 5, Long.MIN_VALUE), Long.MIN_VALUE), -6);
        CHECK.same("the lowest time", x.verify(signed(x, 1, 5, Long.MIN_VALUE + 1), Long.MIN_VALUE), 1);
        CHECK.same("rule 2: the highest time", x.verify(signed(x, 1, 5, Long.MAX_VALUE), Long.MAX_VALUE), -2);
    }

    private static void verifySnapshotAndTold() {
        SignQuorum x = house();
        int snapshot = x.row(2, 3, FAR);
        x.tells(snapshot, 3, 4);
        x.tells(snapshot, 5, 2);
        x.sign(snapshot, 0);
        CHECK.same("rule 7: no time row", x.verify(snapshot, 0), -7);
        take(x, x.row(1, 1, FAR));
        CHECK.same("rule 7: a time row that tells nothing", x.verify(snapshot, 0), -7);
        int time = x.row(1, 1, 20);
        x.tells(time, 2, 3);
        take(x, time);
        CHECK.same("rule 7: the time row isn't alive", x.verify(snapshot, 20), -7);
        CHECK.same("rule 7: another version", x.verify(signed(x, 2, 4, FAR), 0), -7);
        CHECK.same("rule 7: no snapshot", x.verify(signed(x, 3, 4, FAR), 0), -7);
        CHECK.same("a snapshot that is told", x.update(snapshot, 19), 1);
        CHECK.same("targets that are told", x.verify(signed(x, 3, 4, FAR), 0), 1);
        CHECK.same("targets need no living time row", x.verify(signed(x, 3, 4, FAR), 999 - 1), 1);
        CHECK.same("rule 7: a higher version", x.verify(signed(x, 3, 5, FAR), 0), -7);
        CHECK.same("rule 7: a lower version", x.verify(signed(x, 3, 3, FAR), 0), -7);
        CHECK.same("another role that is told", x.verify(signed(x, 5, 2, FAR), 0), 1);
        CHECK.same("rule 7: a role that isn't told", x.verify(signed(x, 6, 1, FAR), 0), -7);
        CHECK.same("rule 8: nothing told", x.verify(signed(x, 2, 3, FAR), 0), -8);
        CHECK.same("rule 8: one role less", verifyTold(x, new int[] {3, 9}, new int[] {3, 9}), -8);
        CHECK.same("rule 8: a lesser version", verifyTold(x, new int[] {3, 5}, new int[] {4, 1}), -8);
        CHECK.same("the same", verifyTold(x, new int[] {5, 3}, new int[] {2, 4}), 1);
        CHECK.same("more and higher", verifyTold(x, new int[] {9, 5, 3}, new int[] {1, 3, 4}), 1);
    }

    private static int verifyTold(SignQuorum x, int[] roles, int[] versions) {
        int row = x.row(2, 3, FAR);
        for (int i = 0; i < roles.length; i++) {
            x.tells(row, roles[i], versions[i]);
        }
        x.sign(row, 0);
        return x.verify(row, 0);
    }

    /** Rows that break many rules at once tell the first; each step mends that one. */
    private static void verifyOrder() {
        SignQuorum x = house();
        int time = x.row(1, 1, 500);
        x.tells(time, 2, 2);
        take(x, time);
        int snapshot = x.row(2, 2, FAR);
        x.tells(snapshot, 3, 1);
        take(x, snapshot);
        int bad = x.row(2, 1, 5);
        CHECK.same("order: rule 2 before 3", x.verify(bad, FAR), -2);
        CHECK.same("order: rule 3 before 5", x.verify(bad, 600), -3);
        x.sign(bad, 0);
        CHECK.same("order: rule 5 before 6", x.verify(bad, 600), -5);
        int dead = signed(x, 2, 3, 5);
        CHECK.same("order: rule 6 before 7", x.verify(dead, 600), -6);
        CHECK.same("order: rule 7 before 8", x.verify(dead, 0), -7);
        CHECK.same("order: rule 8 last", x.verify(signed(x, 2, 2, FAR), 0), -8);
        x.holds(0, 0, false);
        int root = x.row(0, 9, 5);
        CHECK.same("order: rule 3 before 4", x.verify(root, 600), -3);
        x.sign(root, 0);
        CHECK.same("order: rule 4 before 5", x.verify(root, 600), -4);
        x.holds(0, 0, true);
        CHECK.same("order: rule 5 before 6, root", x.verify(signed(x, 0, 9, 5), 600), -5);
    }

    /** As many keys, roles told, delegations and paths as there may be: none is passed over, nothing throws. */
    private static void verifyAndFindWhereAllIsFull() {
        SignQuorum x = house();
        for (int k = 1; k < 20; k++) {
            x.key(k, FAR);
        }
        x.holds(1, 19, true);
        take(x, x.row(0, 2, FAR));
        int time = x.row(1, 1, FAR);
        x.sign(time, 19);
        CHECK.same("the last key counts", x.verify(time, 0), 1);
        House.takeSnapshot(CHECK, x);
        int[] roles = {3, 4, 5, 6, 7, 8, 9};
        int[] ones = {1, 1, 1, 1, 1, 1, 1};
        int next = x.row(1, 1, FAR);
        x.tells(next, 2, 3);
        take(x, next);
        CHECK.same("all seven roles told again", verifyTold(x, roles, ones), 1);
        CHECK.same("rule 8: the last of seven isn't told", verifyTold(x, new int[] {3, 4, 5, 6, 7, 8}, ones), -8);
        int targets = x.row(3, 1, FAR);
        for (int i = 0; i < 6; i++) {
            x.lists(targets, 1 + i);
            x.delegate(targets, i < 5 ? 8 : 7, 4 + i, false);
        }
        take(x, targets);
        int last = x.row(9, 1, FAR);
        x.lists(last, 7);
        take(x, last);
        CHECK.same("find the last of six paths", x.find(6), 3);
        CHECK.same("find by the last of six delegations", x.find(7), 9);
        CHECK.same("find in none of six", x.find(8), -1);
    }

    private static void update() {
        SignQuorum x = houseWithSnapshot();
        CHECK.same("update(-1, 0)", x.update(-1, 0), -1);
        CHECK.same("update(24, 0)", x.update(24, 0), -1);
        int targets = x.row(3, 1, FAR);
        CHECK.same("update without a signature", x.update(targets, 0), -3);
        CHECK.same("nothing is taken", x.current(3), -1);
        x.sign(targets, 0);
        CHECK.same("update", x.update(targets, 0), 1);
        CHECK.same("it is taken", x.current(3), targets);
        CHECK.same("again", x.update(targets, 0), 1);
        int other = signed(x, 3, 1, FAR - 1);
        CHECK.same("another of this version", x.update(other, 0), 1);
        CHECK.same("that is taken", x.current(3), other);
        int root = signed(x, 0, 2, FAR);
        CHECK.same("update of the next root", x.update(root, 0), 1);
        CHECK.same("current(0)", x.current(0), root);
        CHECK.same("the time row stays", x.current(1), 1);
        CHECK.same("the snapshot stays", x.current(2), 2);
        CHECK.same("the targets stay", x.current(3), other);
        CHECK.same("never back", x.update(0, 0), -5);
        CHECK.same("current(0) stays", x.current(0), root);
    }

    private static void revoke() {
        SignQuorum x = new SignQuorum();
        for (int k = 0; k < 20; k++) {
            x.key(k, FAR);
        }
        for (int k : new int[] {-1, 20, 31, 32, Integer.MIN_VALUE, Integer.MAX_VALUE}) {
            CHECK.no("revoke(" + k + ")", x.revoke(k));
        }
        CHECK.yes("revoke(19)", x.revoke(19));
        CHECK.no("revoke(19) again", x.revoke(19));
        CHECK.yes("revoke(0)", x.revoke(0));
        CHECK.no("revoke(0) again", x.revoke(0));
        CHECK.no("revoke(19) still", x.revoke(19));

        SignQuorum y = houseWithSnapshot();
        int time = signed(y, 1, 1, FAR);
        CHECK.same("before revoke", y.verify(time, 0), 1);
        CHECK.yes("revoke", y.revoke(0));
        CHECK.same("after revoke", y.verify(time, 0), -3);
        CHECK.same("what was taken stays", y.current(1), 1);
        CHECK.same("a revoked key still signs", y.sign(time, 0) == 0 ? 0 : 1, 1);
        CHECK.same("and rightly", y.about(time, 3), 1);
        CHECK.same("a root by a revoked key", y.verify(signed(y, 0, 2, FAR), 0), -3);
    }

    private static void find() {
        SignQuorum x = houseWithSnapshot();
        CHECK.same("find without targets", x.find(0x12), -1);
        int early = x.row(4, 1, FAR);
        x.lists(early, 0x12);
        take(x, early);
        CHECK.same("find in no role that targets don't name", x.find(0x12), -1);
        int targets = x.row(3, 1, 5);
        x.lists(targets, 0x12);
        x.lists(targets, 0xeeeeee);
        x.delegate(targets, 0xff, 4, false);
        take(x, targets);
        CHECK.same("find(0x12), where both list it", x.find(0x12), 3);
        CHECK.same("find(0xeeeeee)", x.find(0xeeeeee), 3);
        CHECK.same("find(0x1)", x.find(0x1), -1);
        CHECK.same("find(0x121)", x.find(0x121), -1);
        for (int path : new int[] {0, -1, 0xf, 0x1f, 0x102, 0x1000000, Integer.MIN_VALUE, Integer.MAX_VALUE}) {
            CHECK.same("find(" + path + ")", x.find(path), -1);
        }
        findByPatterns();
    }

    private static void findByPatterns() {
        int[][] fitting = {{0x1, 0x1}, {0x1, 0x12}, {0x1, 0x123456}, {0xf, 0xe}, {0xf2, 0x12}, {0xf2, 0x124},
            {0x1f3, 0x123}, {0xffffff, 0x123456}, {0x123456, 0x123456}, {0x12345f, 0x12345e}};
        int[][] others = {{0x1, 0x21}, {0x12, 0x1}, {0xff, 0x1}, {0xf2, 0x21}, {0x1f3, 0x124}, {0x1f3, 0x223},
            {0x23, 0x123}, {0xffffff, 0x12345}, {0x123456, 0x123455}, {0x2, 0x12}};
        for (int[] pair : fitting) {
            CHECK.same("find by " + Integer.toHexString(pair[0]), findByPattern(pair[0], pair[1]), 4);
        }
        for (int[] pair : others) {
            CHECK.same("find not by " + Integer.toHexString(pair[0]), findByPattern(pair[0], pair[1]), -1);
        }
    }

    private static int findByPattern(int pattern, int path) {
        SignQuorum x = houseWithSnapshot();
        int targets = x.row(3, 1, FAR);
        x.delegate(targets, pattern, 4, true);
        take(x, targets);
        int other = x.row(4, 1, FAR);
        x.lists(other, path);
        take(x, other);
        return x.find(path);
    }

    private static void findAlongDelegations() {
        int[] none = {};
        // Each role's delegations: pattern, role, 1 if it ends. Then what each role lists, from 3 on.
        CHECK.same("the first in order", findIn(new int[][] {{1, 5, 0, 1, 4, 0}, none, none},
            new int[] {0, 0x1, 0x1}), 5);
        CHECK.same("depth first", findIn(new int[][] {{1, 4, 0, 1, 5, 0}, {1, 6, 0}, none, none},
            new int[] {0, 0, 0x1, 0x1}), 6);
        CHECK.same("on behind one that doesn't end", findIn(new int[][] {{1, 4, 0, 1, 5, 0}, none, none},
            new int[] {0, 0, 0x1}), 5);
        CHECK.same("over behind one that ends", findIn(new int[][] {{1, 4, 1, 1, 5, 0}, none, none},
            new int[] {0, 0, 0x1}), -1);
        CHECK.same("one that ends, but doesn't fit", findIn(new int[][] {{2, 4, 1, 1, 5, 0}, none, none},
            new int[] {0, 0, 0x1}), 5);
        CHECK.same("found by one that ends", findIn(new int[][] {{1, 4, 1}, none}, new int[] {0, 0x1}), 4);
        CHECK.same("over from below", findIn(new int[][] {{1, 4, 0, 1, 6, 0}, {1, 5, 1}, none, none},
            new int[] {0, 0, 0, 0x1}), -1);
        CHECK.same("over by a role without a row", findIn(new int[][] {{1, 9, 1, 1, 4, 0}, none},
            new int[] {0, 0x1}), -1);
        CHECK.same("on behind a role without a row", findIn(new int[][] {{1, 9, 0, 1, 4, 0}, none},
            new int[] {0, 0x1}), 4);
        CHECK.same("over by a role that was searched", findIn(new int[][] {{1, 4, 0, 1, 4, 1, 1, 5, 0}, none, none},
            new int[] {0, 0, 0x1}), -1);
        CHECK.same("a ring of roles", findIn(new int[][] {{1, 4, 0}, {1, 5, 0}, {1, 4, 0, 1, 6, 0}, none},
            new int[] {0, 0, 0, 0x1}), 6);
        CHECK.same("a ring, and more behind it at its end", findIn(new int[][] {{1, 4, 0}, {1, 5, 0, 1, 7, 0},
            {1, 6, 0}, {1, 4, 0, 1, 8, 0}, none, none}, new int[] {0, 0, 0, 0, 0x1, 0x1}), 8);
        CHECK.same("a role that names itself", findIn(new int[][] {{1, 4, 0, 1, 5, 0}, {1, 4, 0}, none},
            new int[] {0, 0, 0x1}), 5);
        CHECK.same("a role that names itself and ends", findIn(new int[][] {{1, 4, 0, 1, 5, 0}, {1, 4, 1}, none},
            new int[] {0, 0, 0x1}), -1);
        CHECK.same("as deep as it goes", findIn(new int[][] {{1, 9, 1}, {1, 5, 1}, none, {1, 4, 1}, {1, 6, 1},
            {1, 7, 1}, {1, 8, 1}}, new int[] {0, 0, 0x1, 0, 0, 0, 0}), 5);
    }

    private static int findIn(int[][] delegations, int[] listed) {
        SignQuorum x = houseWithSnapshot();
        for (int i = 0; i < delegations.length; i++) {
            int row = x.row(3 + i, 1, FAR);
            for (int j = 0; j < delegations[i].length; j += 3) {
                x.delegate(row, delegations[i][j], delegations[i][j + 1], delegations[i][j + 2] == 1);
            }
            if (listed[i] != 0) {
                x.lists(row, listed[i]);
            }
            take(x, row);
        }
        int first = x.find(1);
        CHECK.same("find again", x.find(1), first);
        return first;
    }

    private static void version() {
        SignQuorum x = house();
        CHECK.same("version(0)", x.version(0), 1);
        CHECK.same("version(1) without a row", x.version(1), 0);
        take(x, x.row(1, 1000000, FAR));
        CHECK.same("version(1)", x.version(1), 1000000);
        for (int role : NO_ROLES) {
            CHECK.same("version(" + role + ")", x.version(role), -1);
        }
    }

    private static void current() {
        SignQuorum x = houseWithSnapshot();
        for (int role = 3; role <= 9; role++) {
            CHECK.same("current(" + role + ") without a row", x.current(role), -1);
            int row = x.row(role, 1, FAR);
            take(x, row);
            CHECK.same("current(" + role + ")", x.current(role), row);
        }
        for (int role = 0; role <= 2; role++) {
            CHECK.same("current(" + role + ")", x.current(role), role);
        }
        for (int role : NO_ROLES) {
            CHECK.same("current(" + role + ")", x.current(role), -1);
        }
    }

    private static void hash() {
        SignQuorum x = new SignQuorum();
        x.row(0, 1, 0);
        x.row(1, 0x0a0b0c, 0x0102030405060708L);
        x.row(2, 1, 0);
        x.row(3, 1, 0);
        CHECK.same("hash(0)", x.hash(0), 64);
        CHECK.same("hash(2)", x.hash(2), 15);
        CHECK.same("hash(3)", x.hash(3), 16);
        String time = "01" + "000a0b0c" + "0102030405060708" + "00" + "00";
        bytesAre("hash(1)", x, 1, time);
        x.octet(1, 7);
        digestIs("the digest that is told stays, though the row doesn't", x, time);
        for (int row : new int[] {-1, 4, 24, Integer.MIN_VALUE, Integer.MAX_VALUE}) {
            CHECK.same("hash(" + row + ")", x.hash(row), -1);
        }
        digestIs("the digest that is told stays after hash of no row", x, time);
        x.key(1, 1);
        x.sign(1, 0);
        x.forge(2, 0, 1);
        digestIs("the digest that is told stays after sign", x, time);
        bytesAre("hash of a closed row", x, 1, "01" + "000a0b0c" + "0102030405060708" + "01" + "07" + "00");
        for (int octets = 1; octets <= 16; octets++) {
            x.octet(0, octets);
            CHECK.same("hash(0) with octets", x.hash(0), 64 + octets);
        }
        // Round the ends of a block of SHA-256: 55 and 56 bytes, 63 and 64.
        for (int octets = 0; octets <= 16; octets++) {
            hashWithOctets(octets);
        }
    }

    private static void hashWithOctets(int octets) {
        SignQuorum x = new SignQuorum();
        x.row(8, 1, 0);
        for (int i = 0; i < 6; i++) {
            x.delegate(0, 0xabcdef, 4, false);
        }
        for (int i = 0; i < octets; i++) {
            x.octet(0, 0xa5);
        }
        bytesAre("a row of " + (52 + octets) + " bytes", x, 0, "08" + "00000001" + "0000000000000000"
            + HexFormat.of().toHexDigits((byte) octets) + "a5".repeat(octets)
            + "06" + "00abcdef0400".repeat(6) + "00");
    }

    private static void digest() {
        SignQuorum x = new SignQuorum();
        for (int i : new int[] {-1, 32, 33, Integer.MIN_VALUE, Integer.MAX_VALUE}) {
            CHECK.yes("digest(" + i + ") throws", digestThrows(x, i));
        }
        CHECK.no("digest(0) throws", digestThrows(x, 0));
        CHECK.no("digest(31) throws", digestThrows(x, 31));
        x.row(1, 1, 0);
        bytesAre("digest", x, 0, "01" + "00000001" + "0000000000000000" + "00" + "00");
        CHECK.yes("digest(32) still throws", digestThrows(x, 32));
    }

    private static void about() {
        SignQuorum x = new SignQuorum();
        x.key(1, 1);
        x.key(2, 1);
        x.row(0, 7, 0);
        x.row(2, 8, 0);
        x.row(9, 9, 0);
        x.tells(1, 3, 1);
        x.tells(1, 4, 1);
        x.delegate(2, 1, 4, true);
        x.delegate(2, 1, 4, true);
        x.delegate(2, 1, 4, true);
        x.lists(2, 1);
        x.sign(1, 1);
        x.sign(1, 1);
        x.sign(1, 0);
        x.forge(1, 0, 1);
        x.revoke(1);
        int[][] due = {{0, 7, 0, 0, 0, 0, 0}, {2, 8, 4, 2, 2, 0, 0}, {9, 9, 0, 0, 0, 3, 1}};
        for (int row = 0; row < 3; row++) {
            for (int what = 0; what <= 6; what++) {
                CHECK.same("about(" + row + ", " + what + ")", x.about(row, what), due[row][what]);
            }
            for (int what : new int[] {-1, 7, Integer.MIN_VALUE, Integer.MAX_VALUE}) {
                CHECK.same("about(" + row + ", " + what + ")", x.about(row, what), -1);
            }
        }
        for (int row : new int[] {-1, 3, 24, Integer.MIN_VALUE, Integer.MAX_VALUE}) {
            CHECK.same("about(" + row + ", 0)", x.about(row, 0), -1);
        }
    }
}

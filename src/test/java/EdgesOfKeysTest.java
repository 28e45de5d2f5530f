import java.util.HexFormat;

/** The boundary cases of a new object, keys, the draft and revoked keys: promises 1 to 4 and 14. */
public final class EdgesOfKeysTest {
    private static final long FAR = House.FAR;
    private static final String NEW_DRAFT = "0100000000".repeat(10);

    private static final Check CHECK = new Check();

    public static void main(String[] args) {
        CHECK.edge("1", "No KEYS", EdgesOfKeysTest::newHasNoKeys);
        CHECK.edge("1", "no ROWS", EdgesOfKeysTest::newHasNoRows);
        CHECK.edge("1", "the CLIENT has nothing", EdgesOfKeysTest::newClientHasNothing);
        CHECK.edge("1", "the DIGEST that is told is 32 bytes 0", EdgesOfKeysTest::newDigest);
        CHECK.edge("Terms", "a QUORUM (1 at first) and a set of KEYS (none at first)", EdgesOfKeysTest::newDraft);
        CHECK.edge("1", "a new object, beside one that is in use", EdgesOfKeysTest::objectsShareNothing);

        CHECK.edge("2", "numbered from 0", EdgesOfKeysTest::keysAreNumberedFromZero);
        CHECK.edge("2", "NONE if there are 20", EdgesOfKeysTest::noKeyBehindTwenty);
        CHECK.edge("2", "NONE if there are 20: nothing changes", EdgesOfKeysTest::refusedKeyChangesNothing);
        CHECK.edge("Terms", "a SECRET (64 bits)", EdgesOfKeysTest::secretsHave64Bits);
        CHECK.edge("2", "a new KEY, though one like it is there", EdgesOfKeysTest::likeKeysAreTwo);
        CHECK.edge("Terms", "a KEY LIVES at t if its UNTIL is above t", EdgesOfKeysTest::keyLivesBelowItsUntil);
        CHECK.edge("Terms", "UNTIL, the least and the greatest", EdgesOfKeysTest::untilsAtBothEnds);

        CHECK.edge("3", "n (1 .. 9)", EdgesOfKeysTest::quorumIsOneToNine);
        CHECK.edge("3", "false if n isn't so", EdgesOfKeysTest::quorumTooSmallOrTooLarge);
        CHECK.edge("3", "false if there is none such", EdgesOfKeysTest::quorumOfNoRole);
        CHECK.edge("3", "false: nothing changes", EdgesOfKeysTest::refusedQuorumChangesNothing);
        CHECK.edge("3", "becomes n, whatever it was", EdgesOfKeysTest::lastQuorumCounts);
        CHECK.edge("3", "the DRAFT's, not that of a row made before", EdgesOfKeysTest::quorumOfRowsStays);

        CHECK.edge("4", "false if there is no such ROLE", EdgesOfKeysTest::setOfNoRole);
        CHECK.edge("4", "false if there is no such KEY", EdgesOfKeysTest::setWithNoKey);
        CHECK.edge("4", "a KEY that is made later", EdgesOfKeysTest::setWithKeyMadeLater);
        CHECK.edge("4", "false: nothing changes", EdgesOfKeysTest::refusedHoldsChangesNothing);
        CHECK.edge("4", "is in the set, twice", EdgesOfKeysTest::inTheSetTwice);
        CHECK.edge("4", "or isn't, where it never was", EdgesOfKeysTest::outOfTheSetThatIsEmpty);
        CHECK.edge("4", "all 20 KEYS in all sets", EdgesOfKeysTest::fullSets);
        CHECK.edge("Terms", "bit k for KEY k", EdgesOfKeysTest::eachKeyHasItsBit);
        CHECK.edge("4", "a KEY leaves one ROLE's set alone", EdgesOfKeysTest::setsAreApart);

        CHECK.edge("14", "false if there is none such", EdgesOfKeysTest::revokeNoKey);
        CHECK.edge("14", "false if it knows already", EdgesOfKeysTest::revokeAgain);
        CHECK.edge("14", "each of 20 KEYS", EdgesOfKeysTest::revokeEachKey);
        CHECK.edge("14", "false: nothing changes", EdgesOfKeysTest::refusedRevokeChangesNothing);
        CHECK.edge("14", "from now on", EdgesOfKeysTest::revokeFromNowOn);
        CHECK.edge("14", "a KEY that lives no more", EdgesOfKeysTest::revokeDeadKey);
        CHECK.edge("14", "a KEY in no set", EdgesOfKeysTest::revokeKeyOfNoRole);
        CHECK.end();
    }

    private static void newHasNoKeys() {
        SignQuorum x = new SignQuorum();
        x.row(0, 1, FAR);
        for (int role = 0; role <= 9; role++) {
            CHECK.no("holds(" + role + ", 0, true)", x.holds(role, 0, true));
            CHECK.no("holds(" + role + ", 0, false)", x.holds(role, 0, false));
        }
        CHECK.same("sign(0, 0)", x.sign(0, 0), 0);
        CHECK.no("forge(0, 0, 0)", x.forge(0, 0, 0));
        CHECK.no("revoke(0)", x.revoke(0));
    }

    private static void newHasNoRows() {
        SignQuorum x = new SignQuorum();
        x.key(1, FAR);
        CHECK.same("octet(0, 0)", x.octet(0, 0), -1);
        CHECK.no("tells(0, 2, 1)", x.tells(0, 2, 1));
        CHECK.no("tells(0, 3, 1)", x.tells(0, 3, 1));
        CHECK.same("delegate(0, 1, 4, false)", x.delegate(0, 1, 4, false), -1);
        CHECK.same("lists(0, 1)", x.lists(0, 1), -1);
        CHECK.same("sign(0, 0)", x.sign(0, 0), 0);
        CHECK.no("forge(0, 0, 0)", x.forge(0, 0, 0));
        CHECK.same("verify(0, 0)", x.verify(0, 0), -1);
        CHECK.same("update(0, 0)", x.update(0, 0), -1);
        CHECK.same("hash(0)", x.hash(0), -1);
        for (int what = 0; what <= 6; what++) {
            CHECK.same("about(0, " + what + ")", x.about(0, what), -1);
        }
    }

    private static void newClientHasNothing() {
        SignQuorum x = new SignQuorum();
        for (int role = 0; role <= 9; role++) {
            CHECK.same("version(" + role + ")", x.version(role), 0);
            CHECK.same("current(" + role + ")", x.current(role), -1);
        }
        CHECK.same("find(1)", x.find(1), -1);
        x.key(1, FAR);
        CHECK.yes("revoke(0): it isn't known yet", x.revoke(0));
    }

    private static void newDigest() {
        SignQuorum x = new SignQuorum();
        for (int i = 0; i < 32; i++) {
            CHECK.same("digest(" + i + ")", x.digest(i), 0);
        }
    }

    private static void newDraft() {
        SignQuorum x = new SignQuorum();
        x.row(0, 1, 0);
        Bytes.are(CHECK, "the first root", x, 0, Bytes.head(0, 1, 0) + NEW_DRAFT);
    }

    private static void objectsShareNothing() {
        SignQuorum used = House.withSnapshot(CHECK);
        used.hash(0);
        used.revoke(0);
        used.quorum(0, 9);
        newClientHasNothing();
        newDigest();
        newDraft();
        SignQuorum x = new SignQuorum();
        CHECK.same("key(1, 1)", x.key(1, 1), 0);
        CHECK.same("row(0, 1, 1)", x.row(0, 1, 1), 0);
    }

    private static void keysAreNumberedFromZero() {
        SignQuorum x = new SignQuorum();
        for (int k = 0; k < 20; k++) {
            CHECK.same("key " + k, x.key(k, k), k);
        }
    }

    private static void noKeyBehindTwenty() {
        SignQuorum x = new SignQuorum();
        House.addKeys(x, 19);
        CHECK.same("key(1, 1), where there are 19", x.key(1, 1), 19);
        CHECK.same("key(1, 1), where there are 20", x.key(1, 1), -1);
        CHECK.same("key(2, FAR) again", x.key(2, FAR), -1);
        CHECK.no("holds(0, 20, true)", x.holds(0, 20, true));
    }

    private static void refusedKeyChangesNothing() {
        Twins.stayAlike(CHECK, EdgesOfKeysTest::fullKeyRing, x -> CHECK.same("key(99, 0)", x.key(99, 0), -1));
    }

    /** Twenty keys, of which the first and the last have signed a root. */
    private static void fullKeyRing(SignQuorum x) {
        House.addKeys(x, 20);
        x.holds(0, 0, true);
        x.holds(0, 19, true);
        x.quorum(0, 2);
        x.row(0, 1, FAR);
        x.sign(0, 0);
        x.sign(0, 19);
        CHECK.same("verify(0, 0)", x.verify(0, 0), 1);
    }

    private static void secretsHave64Bits() {
        String bytes = Bytes.head(1, 1, FAR) + "00";
        SignQuorum x = new SignQuorum();
        x.row(1, 1, FAR);
        long[] secrets = {0, 1, -1, Long.MIN_VALUE, Long.MAX_VALUE, 0x80000000L, 0xffffffffL, 0x100000000L, -2};
        for (long secret : secrets) {
            int key = x.key(secret, FAR);
            CHECK.same("sign by the secret " + secret, x.sign(0, key), Bytes.signature(secret, bytes));
        }
        CHECK.same("different keys with a right one", x.about(0, 3), secrets.length);
    }

    private static void likeKeysAreTwo() {
        SignQuorum x = new SignQuorum();
        CHECK.same("key(7, FAR)", x.key(7, FAR), 0);
        CHECK.same("key(7, FAR) again", x.key(7, FAR), 1);
        x.holds(0, 0, true);
        x.holds(0, 1, true);
        x.quorum(0, 2);
        x.row(0, 1, FAR);
        x.sign(0, 0);
        CHECK.same("verify by one of two", x.verify(0, 0), -4);
        x.sign(0, 1);
        CHECK.same("verify by both", x.verify(0, 0), 1);
    }

    private static void keyLivesBelowItsUntil() {
        SignQuorum x = rootByKeyUntil(50, FAR);
        CHECK.same("verify one below the until", x.verify(0, 49), 1);
        CHECK.same("verify at the until", x.verify(0, 50), -4);
        CHECK.same("verify one above the until", x.verify(0, 51), -4);
        CHECK.same("verify at 0 again", x.verify(0, 0), 1);
    }

    private static void untilsAtBothEnds() {
        long least = Long.MIN_VALUE;
        long most = Long.MAX_VALUE;
        CHECK.same("a key until the least, at it", rootByKeyUntil(least, most).verify(0, least), -4);
        CHECK.same("a key until one more, at the least", rootByKeyUntil(least + 1, most).verify(0, least), 1);
        CHECK.same("a key until the greatest, at it", rootByKeyUntil(most, most).verify(0, most), -4);
        CHECK.same("a key until the greatest, one below", rootByKeyUntil(most, most).verify(0, most - 1), 1);
        CHECK.same("a key until the greatest, at the least", rootByKeyUntil(most, most).verify(0, least), 1);
        CHECK.same("a key until the least, at the greatest", rootByKeyUntil(least, most).verify(0, most), -4);
        CHECK.same("a key until 0, at 0", rootByKeyUntil(0, most).verify(0, 0), -4);
        CHECK.same("a key until 0, at -1", rootByKeyUntil(0, most).verify(0, -1), 1);
    }

    private static SignQuorum rootByKeyUntil(long keyUntil, long rootUntil) {
        SignQuorum x = new SignQuorum();
        x.key(1, keyUntil);
        x.holds(0, 0, true);
        x.row(0, 1, rootUntil);
        x.sign(0, 0);
        return x;
    }

    private static void quorumIsOneToNine() {
        for (int role = 0; role <= 9; role++) {
            SignQuorum x = new SignQuorum();
            for (int n = 1; n <= 9; n++) {
                CHECK.yes("quorum(" + role + ", " + n + ")", x.quorum(role, n));
            }
            x.row(0, 1, 0);
            Bytes.are(CHECK, "9 of role " + role, x, 0, Bytes.head(0, 1, 0) + "0100000000".repeat(role)
                + "0900000000" + "0100000000".repeat(9 - role));
        }
    }

    private static void quorumTooSmallOrTooLarge() {
        SignQuorum x = new SignQuorum();
        for (int n : new int[] {0, 10, -1, 257, Integer.MIN_VALUE, Integer.MAX_VALUE}) {
            for (int role = 0; role <= 9; role++) {
                CHECK.no("quorum(" + role + ", " + n + ")", x.quorum(role, n));
            }
        }
    }

    private static void quorumOfNoRole() {
        SignQuorum x = new SignQuorum();
        for (int role : House.NO_ROLES) {
            CHECK.no("quorum(" + role + ", 1)", x.quorum(role, 1));
            CHECK.no("quorum(" + role + ", 9)", x.quorum(role, 9));
        }
    }

    private static void refusedQuorumChangesNothing() {
        Twins.stayAlike(CHECK, x -> x.quorum(0, 5), x -> {
            CHECK.no("quorum(0, 0)", x.quorum(0, 0));
            CHECK.no("quorum(0, 10)", x.quorum(0, 10));
            CHECK.no("quorum(-1, 2)", x.quorum(-1, 2));
            CHECK.no("quorum(10, 2)", x.quorum(10, 2));
        });
    }

    private static void lastQuorumCounts() {
        SignQuorum x = new SignQuorum();
        CHECK.yes("quorum(9, 9)", x.quorum(9, 9));
        CHECK.yes("quorum(9, 1)", x.quorum(9, 1));
        CHECK.yes("quorum(9, 1) again", x.quorum(9, 1));
        x.row(0, 1, 0);
        Bytes.are(CHECK, "the draft", x, 0, Bytes.head(0, 1, 0) + NEW_DRAFT);
    }

    private static void quorumOfRowsStays() {
        SignQuorum x = rootByKeyUntil(FAR, FAR);
        CHECK.yes("quorum(0, 9)", x.quorum(0, 9));
        CHECK.same("verify of the root made before", x.verify(0, 0), 1);
        x.row(0, 1, FAR);
        x.sign(1, 0);
        CHECK.same("verify of one made behind it", x.verify(1, 0), -4);
    }

    private static void setOfNoRole() {
        SignQuorum x = new SignQuorum();
        x.key(1, FAR);
        for (int role : House.NO_ROLES) {
            CHECK.no("holds(" + role + ", 0, true)", x.holds(role, 0, true));
            CHECK.no("holds(" + role + ", 0, false)", x.holds(role, 0, false));
        }
        CHECK.yes("holds(0, 0, true)", x.holds(0, 0, true));
        CHECK.yes("holds(9, 0, true)", x.holds(9, 0, true));
    }

    private static void setWithNoKey() {
        SignQuorum x = new SignQuorum();
        House.addKeys(x, 20);
        for (int key : House.NEVER_NUMBERS) {
            CHECK.no("holds(0, " + key + ", true)", x.holds(0, key, true));
            CHECK.no("holds(0, " + key + ", false)", x.holds(0, key, false));
        }
        CHECK.no("holds(0, 20, true)", x.holds(0, 20, true));
        CHECK.yes("holds(0, 0, true)", x.holds(0, 0, true));
        CHECK.yes("holds(0, 19, true)", x.holds(0, 19, true));
    }

    private static void setWithKeyMadeLater() {
        SignQuorum x = new SignQuorum();
        x.key(1, FAR);
        CHECK.no("holds(0, 1, true) before key 1", x.holds(0, 1, true));
        x.key(2, FAR);
        x.row(0, 1, 0);
        Bytes.are(CHECK, "key 1 isn't in the set", x, 0, Bytes.head(0, 1, 0) + NEW_DRAFT);
        CHECK.yes("holds(0, 1, true)", x.holds(0, 1, true));
    }

    private static void refusedHoldsChangesNothing() {
        Twins.stayAlike(CHECK, EdgesOfKeysTest::fullKeyRing, x -> {
            CHECK.no("holds(0, 32, false): 32 isn't 0", x.holds(0, 32, false));
            CHECK.no("holds(0, 51, false): 51 isn't 19", x.holds(0, 51, false));
            CHECK.no("holds(1, 33, true): 33 isn't 1", x.holds(1, 33, true));
            CHECK.no("holds(0, -1, true)", x.holds(0, -1, true));
            CHECK.no("holds(0, 20, true)", x.holds(0, 20, true));
            CHECK.no("holds(10, 0, true)", x.holds(10, 0, true));
            CHECK.no("holds(-1, 0, true)", x.holds(-1, 0, true));
        });
    }

    private static void inTheSetTwice() {
        SignQuorum x = new SignQuorum();
        x.key(1, FAR);
        CHECK.yes("holds(0, 0, true)", x.holds(0, 0, true));
        CHECK.yes("holds(0, 0, true) again", x.holds(0, 0, true));
        CHECK.yes("holds(0, 0, false)", x.holds(0, 0, false));
        x.row(0, 1, 0);
        Bytes.are(CHECK, "once out is out", x, 0, Bytes.head(0, 1, 0) + NEW_DRAFT);
    }

    private static void outOfTheSetThatIsEmpty() {
        SignQuorum x = new SignQuorum();
        x.key(1, FAR);
        CHECK.yes("holds(4, 0, false)", x.holds(4, 0, false));
        CHECK.yes("holds(4, 0, false) again", x.holds(4, 0, false));
        x.row(0, 1, 0);
        Bytes.are(CHECK, "the set is empty", x, 0, Bytes.head(0, 1, 0) + NEW_DRAFT);
    }

    private static void fullSets() {
        SignQuorum x = new SignQuorum();
        House.addKeys(x, 20);
        for (int k = 0; k < 20; k++) {
            House.holdAll(x, k);
        }
        x.row(0, 1, 0);
        Bytes.are(CHECK, "all keys in all sets", x, 0, Bytes.head(0, 1, 0) + "01000fffff".repeat(10));
        x.holds(9, 19, false);
        x.holds(0, 0, false);
        x.row(0, 1, 0);
        Bytes.are(CHECK, "but the last of the last, and the first of the first", x, 1, Bytes.head(0, 1, 0)
            + "01000ffffe" + "01000fffff".repeat(8) + "010007ffff");
    }

    private static void eachKeyHasItsBit() {
        SignQuorum x = new SignQuorum();
        House.addKeys(x, 20);
        for (int k = 0; k < 20; k++) {
            x.holds(9, k, true);
            x.row(0, 1, 0);
            x.holds(9, k, false);
            CHECK.same("hash(" + k + ")", x.hash(k), 64);
            String due = Bytes.head(0, 1, 0) + "0100000000".repeat(9) + String.format("01%08x", 1 << k);
            CHECK.same("digest(0)", x.digest(0), Model.sha256(HexFormat.of().parseHex(due))[0]);
            CHECK.same("digest(31)", x.digest(31), Model.sha256(HexFormat.of().parseHex(due))[31]);
        }
    }

    private static void setsAreApart() {
        SignQuorum x = new SignQuorum();
        x.key(1, FAR);
        House.holdAll(x, 0);
        CHECK.yes("holds(5, 0, false)", x.holds(5, 0, false));
        x.row(0, 1, 0);
        Bytes.are(CHECK, "all sets but one", x, 0, Bytes.head(0, 1, 0) + "0100000001".repeat(5) + "0100000000"
            + "0100000001".repeat(4));
    }

    private static void revokeNoKey() {
        SignQuorum x = new SignQuorum();
        CHECK.no("revoke(0) without keys", x.revoke(0));
        House.addKeys(x, 20);
        for (int key : House.NEVER_NUMBERS) {
            CHECK.no("revoke(" + key + ")", x.revoke(key));
        }
        CHECK.no("revoke(20)", x.revoke(20));
        CHECK.yes("revoke(0), which wasn't known when there was no key 0", x.revoke(0));
    }

    private static void revokeAgain() {
        SignQuorum x = new SignQuorum();
        x.key(1, FAR);
        CHECK.yes("revoke(0)", x.revoke(0));
        CHECK.no("revoke(0) again", x.revoke(0));
        CHECK.no("revoke(0) a third time", x.revoke(0));
    }

    private static void revokeEachKey() {
        SignQuorum x = new SignQuorum();
        House.addKeys(x, 20);
        for (int k = 19; k >= 0; k--) {
            CHECK.yes("revoke(" + k + ")", x.revoke(k));
        }
        for (int k = 0; k < 20; k++) {
            CHECK.no("revoke(" + k + ") again", x.revoke(k));
        }
    }

    private static void refusedRevokeChangesNothing() {
        Twins.stayAlike(CHECK, EdgesOfKeysTest::fullKeyRing, x -> {
            CHECK.no("revoke(-1)", x.revoke(-1));
            CHECK.no("revoke(20)", x.revoke(20));
            CHECK.no("revoke(32): 32 isn't 0", x.revoke(32));
            CHECK.no("revoke(51): 51 isn't 19", x.revoke(51));
        });
    }

    private static void revokeFromNowOn() {
        SignQuorum x = House.withSnapshot(CHECK);
        int time = House.signed(x, 1, 1, FAR);
        CHECK.same("verify before", x.verify(time, 0), 1);
        CHECK.yes("revoke(0)", x.revoke(0));
        CHECK.same("verify behind it", x.verify(time, 0), -3);
        CHECK.same("verify at an earlier t", x.verify(time, Long.MIN_VALUE), -3);
        for (int role = 0; role <= 2; role++) {
            CHECK.same("current(" + role + ") stays", x.current(role), role);
        }
        x.sign(time, 0);
        CHECK.same("verify with a signature put down behind it", x.verify(time, 0), -3);
        CHECK.same("its signatures are right still", x.about(time, 3), 1);
    }

    private static void revokeDeadKey() {
        SignQuorum x = new SignQuorum();
        x.key(1, Long.MIN_VALUE);
        CHECK.yes("revoke(0)", x.revoke(0));
        CHECK.no("revoke(0) again", x.revoke(0));
    }

    private static void revokeKeyOfNoRole() {
        SignQuorum x = rootByKeyUntil(FAR, FAR);
        x.key(2, FAR);
        CHECK.yes("revoke(1)", x.revoke(1));
        CHECK.same("verify by key 0", x.verify(0, 0), 1);
    }
}

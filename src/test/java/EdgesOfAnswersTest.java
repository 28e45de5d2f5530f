/** The boundary cases of what is told of the client and of rows: promises 16 to 20. */
public final class EdgesOfAnswersTest {
    private static final long FAR = House.FAR;

    private static final Check CHECK = new Check();

    public static void main(String[] args) {
        CHECK.edge("16", "0 without one", EdgesOfAnswersTest::versionWithoutRow);
        CHECK.edge("16", "NONE if there is no such ROLE", EdgesOfAnswersTest::versionOfNoRole);
        CHECK.edge("16", "the VERSION, the least and the greatest", EdgesOfAnswersTest::versionsAtBothEnds);
        CHECK.edge("17", "NONE without one", EdgesOfAnswersTest::currentWithoutRow);
        CHECK.edge("17", "NONE if there is no such ROLE", EdgesOfAnswersTest::currentOfNoRole);
        CHECK.edge("17", "the first ROW and the last", EdgesOfAnswersTest::currentFirstAndLast);

        CHECK.edge("18", "NONE if there is none such", EdgesOfAnswersTest::hashNoRow);
        CHECK.edge("18", "NONE, and nothing happens", EdgesOfAnswersTest::refusedHashChangesNothing);
        CHECK.edge("18", "how many BYTES it has, where it is empty", EdgesOfAnswersTest::hashEmptyRows);
        CHECK.edge("18", "how many BYTES it has, where it is full", EdgesOfAnswersTest::hashFullRows);
        CHECK.edge("18", "the DIGEST of a ROW, signed or not", EdgesOfAnswersTest::signaturesAreNoBytes);
        CHECK.edge("18", "becomes the one that is told", EdgesOfAnswersTest::lastHashIsTold);
        CHECK.edge("18", "the one that is told, when the ROW changes", EdgesOfAnswersTest::toldDigestStays);

        CHECK.edge("19", "i isn't 0 .. 31", EdgesOfAnswersTest::digestOutOfBounds);
        CHECK.edge("19", "i isn't 0 .. 31, behind hash", EdgesOfAnswersTest::digestOutOfBoundsBehindHash);
        CHECK.edge("19", "Byte i, the first and the last", EdgesOfAnswersTest::digestFirstAndLast);
        CHECK.edge("19", "a throw changes nothing", EdgesOfAnswersTest::throwChangesNothing);

        CHECK.edge("20", "NONE if there is none such", EdgesOfAnswersTest::aboutNoRow);
        CHECK.edge("20", "NONE for another what", EdgesOfAnswersTest::aboutOtherWhat);
        CHECK.edge("20", "0 of ROWS that have no such", EdgesOfAnswersTest::aboutEmptyRows);
        CHECK.edge("20", "of ROWS that are full", EdgesOfAnswersTest::aboutFullRows);
        CHECK.edge("20", "how many different KEYS have a RIGHT one", EdgesOfAnswersTest::aboutDifferentKeys);
        CHECK.edge("20", "refused calls don't count", EdgesOfAnswersTest::aboutRefusedCalls);
        CHECK.edge("16 to 20", "asking changes nothing", EdgesOfAnswersTest::askingChangesNothing);
        CHECK.edge("What it is", "at most 512 calls: the last of them", EdgesOfAnswersTest::lastOf512Calls);
        CHECK.end();
    }

    private static void versionWithoutRow() {
        SignQuorum x = House.withRoot(CHECK);
        for (int role = 1; role <= 9; role++) {
            CHECK.same("version(" + role + ")", x.version(role), 0);
            House.signed(x, role, 5, FAR);
            CHECK.same("version(" + role + ") with a row that isn't current", x.version(role), 0);
        }
    }

    private static void versionOfNoRole() {
        SignQuorum x = House.withSnapshot(CHECK);
        for (int role : House.NO_ROLES) {
            CHECK.same("version(" + role + ")", x.version(role), -1);
            CHECK.same("version(" + role + ") of a new object", new SignQuorum().version(role), -1);
        }
    }

    private static void versionsAtBothEnds() {
        SignQuorum x = House.withRoot(CHECK);
        House.take(CHECK, x, x.row(1, 1, FAR));
        CHECK.same("version(1)", x.version(1), 1);
        House.take(CHECK, x, x.row(1, 1000000, FAR));
        CHECK.same("version(1)", x.version(1), 1000000);
        CHECK.same("update of a lower one", x.update(House.signed(x, 1, 999999, FAR), 0), -5);
        CHECK.same("version(1) stays", x.version(1), 1000000);
    }

    private static void currentWithoutRow() {
        SignQuorum x = House.withRoot(CHECK);
        for (int role = 1; role <= 9; role++) {
            CHECK.same("current(" + role + ")", x.current(role), -1);
            House.signed(x, role, 5, FAR);
            CHECK.same("current(" + role + ") with a row that isn't current", x.current(role), -1);
        }
    }

    private static void currentOfNoRole() {
        SignQuorum x = House.withSnapshot(CHECK);
        for (int role : House.NO_ROLES) {
            CHECK.same("current(" + role + ")", x.current(role), -1);
            CHECK.same("current(" + role + ") of a new object", new SignQuorum().current(role), -1);
        }
    }

    private static void currentFirstAndLast() {
        SignQuorum x = House.withRoot(CHECK);
        CHECK.same("current(0), the first row", x.current(0), 0);
        for (int i = 1; i < 23; i++) {
            x.row(1, 1, FAR);
        }
        int last = x.row(1, 1, FAR);
        House.take(CHECK, x, last);
        CHECK.same("current(1), the last row", x.current(1), 23);
    }

    private static void hashNoRow() {
        SignQuorum x = new SignQuorum();
        CHECK.same("hash(0), where there is none", x.hash(0), -1);
        x.row(1, 1, 0);
        CHECK.same("hash(1), where there is one", x.hash(1), -1);
        for (int row : House.NEVER_NUMBERS) {
            CHECK.same("hash(" + row + ")", x.hash(row), -1);
        }
    }

    private static void refusedHashChangesNothing() {
        SignQuorum x = new SignQuorum();
        x.row(1, 1, 0);
        x.hash(1);
        for (int i = 0; i < 32; i++) {
            CHECK.same("digest(" + i + ") behind hash of no row", x.digest(i), 0);
        }
        x.hash(0);
        for (int row : House.NEVER_NUMBERS) {
            x.hash(row);
            Bytes.digestIs(CHECK, "behind hash(" + row + ")", x, Bytes.head(1, 1, 0) + "00");
        }
        Twins.stayAlike(CHECK, y -> y.row(0, 1, FAR), y -> CHECK.same("hash(1)", y.hash(1), -1));
    }

    private static void hashEmptyRows() {
        SignQuorum x = new SignQuorum();
        for (int role = 0; role <= 9; role++) {
            x.row(role, 1, 0);
            CHECK.same("hash of role " + role, x.hash(role), role == 0 ? 64 : role <= 2 ? 15 : 16);
        }
    }

    private static void hashFullRows() {
        SignQuorum x = new SignQuorum();
        fillRows(x);
        int[] due = {80, 36, 66, 92};
        for (int row = 0; row < due.length; row++) {
            CHECK.same("hash(" + row + ")", x.hash(row), due[row]);
        }
    }

    /** The rows 0 .. 3 are of these roles and have as much of all as there may be, but for signatures. */
    private static void fillRows(SignQuorum x) {
        for (int role = 0; role <= 3; role++) {
            x.row(role, 1, FAR);
            for (int i = 0; i < 17; i++) {
                x.octet(role, i);
            }
            for (int other = 0; other <= 9; other++) {
                x.tells(role, other, 1);
            }
            for (int i = 0; i < 7; i++) {
                x.delegate(role, 1, 4, true);
                x.lists(role, 1);
            }
        }
    }

    private static void signaturesAreNoBytes() {
        SignQuorum x = new SignQuorum();
        x.key(1, FAR);
        x.row(1, 1, 0);
        for (int i = 0; i <= 12; i++) {
            Bytes.are(CHECK, "with " + i + " signatures", x, 0, Bytes.head(1, 1, 0) + "00");
            x.sign(0, 0);
        }
    }

    private static void lastHashIsTold() {
        SignQuorum x = new SignQuorum();
        x.row(1, 1, 0);
        x.row(9, 1, 0);
        x.hash(0);
        x.hash(1);
        Bytes.digestIs(CHECK, "the second", x, Bytes.head(9, 1, 0) + "0000");
        x.hash(0);
        Bytes.digestIs(CHECK, "the first again", x, Bytes.head(1, 1, 0) + "00");
    }

    private static void toldDigestStays() {
        SignQuorum x = new SignQuorum();
        x.key(1, FAR);
        x.holds(0, 0, true);
        x.row(0, 1, FAR);
        x.hash(0);
        String before = Bytes.head(0, 1, FAR) + "0100000001" + "0100000000".repeat(9);
        x.octet(0, 1);
        Bytes.digestIs(CHECK, "behind octet", x, before);
        x.sign(0, 0);
        x.forge(0, 0, 1);
        Bytes.digestIs(CHECK, "behind sign and forge", x, before);
        x.verify(0, 0);
        x.update(0, 0);
        x.about(0, 3);
        Bytes.digestIs(CHECK, "behind verify, update and about", x, before);
    }

    private static void digestOutOfBounds() {
        SignQuorum x = new SignQuorum();
        for (int i : new int[] {-1, 32, 33, 64, 256, -32, Integer.MIN_VALUE, Integer.MAX_VALUE}) {
            throwsOutOfBounds(x, i);
        }
    }

    private static void digestOutOfBoundsBehindHash() {
        SignQuorum x = new SignQuorum();
        x.row(1, 1, 0);
        x.hash(0);
        throwsOutOfBounds(x, -1);
        throwsOutOfBounds(x, 32);
        throwsOutOfBounds(x, -1);
    }

    private static void throwsOutOfBounds(SignQuorum x, int i) {
        boolean thrown = false;
        try {
            x.digest(i);
        } catch (ArrayIndexOutOfBoundsException e) {
            thrown = true;
            CHECK.yes("digest(" + i + ") throws this class itself",
                e.getClass() == ArrayIndexOutOfBoundsException.class);
            // The machine's own text: it must never be the machine that throws.
            CHECK.no("digest(" + i + ") is thrown by the machine", String.valueOf(e.getMessage()).contains("out of"));
        }
        CHECK.yes("digest(" + i + ") throws", thrown);
    }

    private static void digestFirstAndLast() {
        SignQuorum x = new SignQuorum();
        x.row(1, 1, 0);
        x.hash(0);
        // SHA-256 of 01 00000001 0000000000000000 00 00, as sha256sum tells it.
        CHECK.same("digest(0)", x.digest(0), (byte) 0xd0);
        CHECK.same("digest(31)", x.digest(31), 0x5c);
    }

    private static void throwChangesNothing() {
        Twins.stayAlike(CHECK, EdgesOfAnswersTest::fillRows, x -> {
            throwsOutOfBounds(x, -1);
            throwsOutOfBounds(x, 32);
        });
    }

    private static void aboutNoRow() {
        SignQuorum x = new SignQuorum();
        x.row(0, 1, 0);
        for (int what = 0; what <= 6; what++) {
            CHECK.same("about(1, " + what + "), where there is one row", x.about(1, what), -1);
            for (int row : House.NEVER_NUMBERS) {
                CHECK.same("about(" + row + ", " + what + ")", x.about(row, what), -1);
            }
        }
    }

    private static void aboutOtherWhat() {
        SignQuorum x = new SignQuorum();
        fillRows(x);
        for (int row = 0; row <= 3; row++) {
            for (int what : new int[] {-1, 7, 8, 32, 256, Integer.MIN_VALUE, Integer.MAX_VALUE}) {
                CHECK.same("about(" + row + ", " + what + ")", x.about(row, what), -1);
            }
        }
    }

    private static void aboutEmptyRows() {
        SignQuorum x = new SignQuorum();
        for (int role = 0; role <= 9; role++) {
            x.row(role, 7, 0);
            int[] due = {role, 7, 0, 0, 0, 0, 0};
            for (int what = 0; what <= 6; what++) {
                CHECK.same("about(" + role + ", " + what + ")", x.about(role, what), due[what]);
            }
        }
    }

    private static void aboutFullRows() {
        SignQuorum x = new SignQuorum();
        fillRows(x);
        House.addKeys(x, 13);
        for (int row = 0; row <= 3; row++) {
            for (int k = 0; k < 13; k++) {
                x.sign(row, k);
            }
            int[] due = {row, 1, 12, 12, row == 1 ? 1 : row == 2 ? 7 : 0, row == 3 ? 6 : 0, row == 3 ? 6 : 0};
            for (int what = 0; what <= 6; what++) {
                CHECK.same("about(" + row + ", " + what + ")", x.about(row, what), due[what]);
            }
        }
    }

    private static void aboutDifferentKeys() {
        SignQuorum x = new SignQuorum();
        x.key(1, Long.MIN_VALUE);
        x.key(1, FAR);
        x.key(2, FAR);
        x.row(1, 1, 0);
        x.forge(0, 2, 1);
        CHECK.same("one wrong", x.about(0, 3), 0);
        x.sign(0, 0);
        x.sign(0, 0);
        CHECK.same("one right, twice, of a key that doesn't live", x.about(0, 3), 1);
        x.sign(0, 1);
        CHECK.same("another key of the same secret", x.about(0, 3), 2);
        x.revoke(1);
        CHECK.same("a revoked key's is right still", x.about(0, 3), 2);
        CHECK.same("all signatures", x.about(0, 2), 4);
    }

    private static void aboutRefusedCalls() {
        SignQuorum x = new SignQuorum();
        x.row(3, 1, 0);
        x.row(2, 1, 0);
        x.sign(0, 0);
        x.forge(0, 0, 1);
        x.delegate(0, 0, 4, true);
        x.lists(0, 0);
        x.tells(1, 2, 1);
        x.tells(1, 3, 0);
        for (int what = 2; what <= 6; what++) {
            CHECK.same("about(0, " + what + ")", x.about(0, what), 0);
            CHECK.same("about(1, " + what + ")", x.about(1, what), 0);
        }
    }

    private static void askingChangesNothing() {
        Twins.stayAlike(CHECK, x -> {
            x.key(1, FAR);
            x.holds(0, 0, true);
            fillRows(x);
            x.sign(0, 0);
        }, x -> {
            CHECK.same("verify(0, 0)", x.verify(0, 0), 1);
            CHECK.same("version(0)", x.version(0), 0);
            CHECK.same("current(0)", x.current(0), -1);
            CHECK.same("about(0, 2)", x.about(0, 2), 1);
            CHECK.same("find(1)", x.find(1), -1);
            CHECK.same("digest(0)", x.digest(0), 0);
        });
    }

    private static void lastOf512Calls() {
        SignQuorum x = new SignQuorum();
        x.key(1, FAR);
        x.holds(0, 0, true);
        x.row(0, 1, FAR);
        x.sign(0, 0);
        x.hash(0);
        for (int i = 0; i < 474; i++) {
            CHECK.same("verify(0, 0)", x.verify(0, 0), 1);
        }
        Bytes.digestIs(CHECK, "the digest", x, Bytes.head(0, 1, FAR) + "0100000001" + "0100000000".repeat(9));
        CHECK.same("update, the 512th call", x.update(0, 0), 1);
    }
}

/** The boundary cases of signatures, right and forged: promises 10 and 11. */
public final class EdgesOfSignaturesTest {
    private static final long FAR = House.FAR;
    private static final long SECRET = 0x0123456789abcdefL;
    // The bytes of the row of openTimeRow.
    private static final String BYTES = Bytes.head(1, 1, FAR) + "00";

    private static final Check CHECK = new Check();

    public static void main(String[] args) {
        CHECK.edge("10", "0 if there is no such ROW", EdgesOfSignaturesTest::signNoRow);
        CHECK.edge("10", "0 if there is no such KEY", EdgesOfSignaturesTest::signByNoKey);
        CHECK.edge("10", "0 if the ROW has 12", EdgesOfSignaturesTest::signBehindTwelve);
        CHECK.edge("10", "0, and nothing happens", EdgesOfSignaturesTest::refusedSignChangesNothing);
        CHECK.edge("10", "0, and nothing happens: the ROW isn't CLOSED", EdgesOfSignaturesTest::refusedSignLeavesOpen);
        CHECK.edge("10", "A KEY signs a ROW (again, too)", EdgesOfSignaturesTest::signAgain);
        CHECK.edge("10", "a KEY that doesn't live", EdgesOfSignaturesTest::signByDeadKey);
        CHECK.edge("10", "a KEY in no set", EdgesOfSignaturesTest::signByKeyOfNoRole);
        CHECK.edge("10", "an empty ROW of each ROLE", EdgesOfSignaturesTest::signEmptyRows);
        CHECK.edge("10", "a ROW that is full", EdgesOfSignaturesTest::signFullRows);
        CHECK.edge("10", "a ROW of every length", EdgesOfSignaturesTest::signEveryLength);
        CHECK.edge("Terms", "as a number, the first byte highest", EdgesOfSignaturesTest::signaturesOfBothSigns);

        CHECK.edge("11", "false if there is no such ROW", EdgesOfSignaturesTest::forgeNoRow);
        CHECK.edge("11", "false if there is no such KEY", EdgesOfSignaturesTest::forgeByNoKey);
        CHECK.edge("11", "false if the ROW has 12", EdgesOfSignaturesTest::forgeBehindTwelve);
        CHECK.edge("10, 11", "12 of both together", EdgesOfSignaturesTest::twelveOfBoth);
        CHECK.edge("11", "false: nothing changes", EdgesOfSignaturesTest::refusedForgeChangesNothing);
        CHECK.edge("11", "false: the ROW isn't CLOSED", EdgesOfSignaturesTest::refusedForgeLeavesOpen);
        CHECK.edge("11", "A number, the least and the greatest", EdgesOfSignaturesTest::forgeAnyNumber);
        CHECK.edge("Terms", "RIGHT if it is the first eight bytes", EdgesOfSignaturesTest::forgeTheRightNumber);
        CHECK.edge("Terms", "not RIGHT by any one bit", EdgesOfSignaturesTest::forgeOneBitOff);
        CHECK.edge("Terms", "RIGHT of another KEY", EdgesOfSignaturesTest::forgeNumberOfAnotherKey);
        CHECK.edge("Terms", "RIGHT of another ROW", EdgesOfSignaturesTest::forgeNumberOfAnotherRow);
        CHECK.edge("Terms", "RIGHT of the ROW as it was before", EdgesOfSignaturesTest::forgeNumberOfEarlierBytes);
        CHECK.edge("Terms", "others, twice the same, say nothing", EdgesOfSignaturesTest::wrongOnesBesideRightOnes);
        CHECK.edge("Terms", "SIGNATURES of 12 KEYS", EdgesOfSignaturesTest::twelveKeys);
        CHECK.end();
    }

    /** Key 0 has SECRET, and row 0 is an open time row, whose bytes are BYTES. */
    private static SignQuorum openTimeRow() {
        SignQuorum x = new SignQuorum();
        fillTimeRow(x);
        return x;
    }

    private static void fillTimeRow(SignQuorum x) {
        x.key(SECRET, FAR);
        x.row(1, 1, FAR);
    }

    private static void signNoRow() {
        SignQuorum x = openTimeRow();
        CHECK.same("sign(1, 0), where there is one row", x.sign(1, 0), 0);
        for (int row : House.NEVER_NUMBERS) {
            CHECK.same("sign(" + row + ", 0)", x.sign(row, 0), 0);
        }
    }

    private static void signByNoKey() {
        SignQuorum x = openTimeRow();
        CHECK.same("sign(0, 1), where there is one key", x.sign(0, 1), 0);
        CHECK.same("sign(0, 19), where there is one key", x.sign(0, 19), 0);
        for (int key : House.NEVER_NUMBERS) {
            CHECK.same("sign(0, " + key + ")", x.sign(0, key), 0);
        }
        House.addKeys(x, 19);
        CHECK.same("sign(0, 20), where there are twenty", x.sign(0, 20), 0);
        CHECK.yes("sign(0, 19), where there are twenty", x.sign(0, 19) != 0);
    }

    private static void signBehindTwelve() {
        SignQuorum x = openTimeRow();
        x.key(2, FAR);
        long due = Bytes.signature(SECRET, BYTES);
        for (int i = 1; i <= 12; i++) {
            CHECK.same("signature " + i, x.sign(0, 0), due);
        }
        CHECK.same("signature 13", x.sign(0, 0), 0);
        CHECK.same("signature 13, of another key", x.sign(0, 1), 0);
        CHECK.same("about(0, 2)", x.about(0, 2), 12);
        CHECK.same("about(0, 3)", x.about(0, 3), 1);
    }

    private static void refusedSignChangesNothing() {
        Twins.stayAlike(CHECK, EdgesOfSignaturesTest::fillTimeRow, x -> {
            CHECK.same("sign(0, 1)", x.sign(0, 1), 0);
            CHECK.same("sign(0, -1)", x.sign(0, -1), 0);
            CHECK.same("sign(0, 32): 32 isn't 0", x.sign(0, 32), 0);
            CHECK.same("sign(1, 0)", x.sign(1, 0), 0);
            CHECK.same("sign(-1, 0)", x.sign(-1, 0), 0);
        });
        Twins.stayAlike(CHECK, EdgesOfSignaturesTest::twelveWrongOnes,
            x -> CHECK.same("sign(0, 0), where there are 12", x.sign(0, 0), 0));
    }

    /** A root that only lacks a right signature, and has no room for one. */
    private static void twelveWrongOnes(SignQuorum x) {
        x.key(SECRET, FAR);
        x.holds(0, 0, true);
        x.row(0, 1, FAR);
        for (int i = 1; i <= 12; i++) {
            CHECK.yes("forge " + i, x.forge(0, 0, i));
        }
        CHECK.same("verify(0, 0)", x.verify(0, 0), -4);
    }

    private static void refusedSignLeavesOpen() {
        SignQuorum x = openTimeRow();
        CHECK.same("sign(0, 1)", x.sign(0, 1), 0);
        CHECK.same("octet(0, 1)", x.octet(0, 1), 1);
        CHECK.yes("tells(0, 2, 1)", x.tells(0, 2, 1));
    }

    private static void signAgain() {
        SignQuorum x = openTimeRow();
        long first = x.sign(0, 0);
        CHECK.same("sign(0, 0)", first, Bytes.signature(SECRET, BYTES));
        CHECK.same("sign(0, 0) again", x.sign(0, 0), first);
        CHECK.same("about(0, 2): two signatures", x.about(0, 2), 2);
        CHECK.same("about(0, 3): one key", x.about(0, 3), 1);
    }

    private static void signByDeadKey() {
        SignQuorum x = new SignQuorum();
        x.key(SECRET, Long.MIN_VALUE);
        x.key(SECRET, FAR);
        x.revoke(1);
        x.row(1, 1, FAR);
        long due = Bytes.signature(SECRET, BYTES);
        CHECK.same("sign by one whose until is past", x.sign(0, 0), due);
        CHECK.same("sign by a revoked one", x.sign(0, 1), due);
        CHECK.same("about(0, 3): both are right", x.about(0, 3), 2);
    }

    private static void signByKeyOfNoRole() {
        SignQuorum x = House.withRoot(CHECK);
        int key = x.key(SECRET, FAR);
        int row = x.row(1, 1, FAR);
        CHECK.same("sign by a key of no role", x.sign(row, key), Bytes.signature(SECRET, BYTES));
        CHECK.same("it is right", x.about(row, 3), 1);
        CHECK.same("but says nothing", x.verify(row, 0), -3);
    }

    private static void signEmptyRows() {
        for (int role = 0; role <= 9; role++) {
            SignQuorum x = new SignQuorum();
            x.key(SECRET, FAR);
            x.row(role, 1, FAR);
            String rest = role == 0 ? "0100000000".repeat(10) : role <= 2 ? "00" : "0000";
            CHECK.same("sign of role " + role, x.sign(0, 0), Bytes.signature(SECRET, Bytes.head(role, 1, FAR) + rest));
        }
    }

    private static void signFullRows() {
        String octets = "a5".repeat(16);
        SignQuorum x = new SignQuorum();
        for (int k = 0; k < 20; k++) {
            x.key(SECRET, FAR);
            House.holdAll(x, k);
        }
        for (int role = 0; role <= 9; role++) {
            x.quorum(role, 9);
        }
        for (int role = 0; role <= 3; role++) {
            x.row(role, 1000000, -1);
            for (int i = 0; i < 16; i++) {
                x.octet(role, 0xa5);
            }
        }
        x.tells(1, 2, 1000000);
        for (int role = 3; role <= 9; role++) {
            x.tells(2, role, 1000000);
        }
        for (int i = 0; i < 6; i++) {
            x.delegate(3, 0xffffff, 9, true);
            x.lists(3, 0xeeeeee);
        }
        String[] rest = {"09000fffff".repeat(10), "0102000f4240", "0703000f424004000f424005000f424006000f4240"
            + "07000f424008000f424009000f4240", "06" + "00ffffff0901".repeat(6) + "06" + "00eeeeee".repeat(6)};
        for (int row = 0; row <= 3; row++) {
            String bytes = Bytes.octetHead(row, 1000000, -1, octets) + rest[row];
            Bytes.are(CHECK, "full row of role " + row, x, row, bytes);
            CHECK.same("sign of a full row of role " + row, x.sign(row, 19), Bytes.signature(SECRET, bytes));
        }
    }

    /** Rows of 16 to 92 bytes, so that a message ends at every place in and round a block of SHA-256. */
    private static void signEveryLength() {
        for (int length = 16; length <= 92; length++) {
            int rest = length - 16;
            int delegations = Math.min(6, rest / 6);
            rest -= 6 * delegations;
            int paths = Math.min(6, rest / 4);
            int octets = rest - 4 * paths;
            SignQuorum x = new SignQuorum();
            x.key(SECRET, FAR);
            x.row(5, 1, FAR);
            for (int i = 0; i < octets; i++) {
                x.octet(0, 0x5a);
            }
            for (int i = 0; i < delegations; i++) {
                x.delegate(0, 0x1f2f3f, 6, false);
            }
            for (int i = 0; i < paths; i++) {
                x.lists(0, 0x1e2d3c);
            }
            String bytes = Bytes.octetHead(5, 1, FAR, "5a".repeat(octets)) + "0" + delegations
                + "001f2f3f0600".repeat(delegations) + "0" + paths + "001e2d3c".repeat(paths);
            CHECK.same("the bytes of the test", bytes.length() / 2, length);
            Bytes.are(CHECK, length + " bytes", x, 0, bytes);
            CHECK.same("sign of " + length + " bytes", x.sign(0, 0), Bytes.signature(SECRET, bytes));
        }
    }

    private static void signaturesOfBothSigns() {
        int negative = 0;
        SignQuorum x = new SignQuorum();
        x.row(1, 1, FAR);
        for (int secret = 0; secret < 12; secret++) {
            int key = x.key(secret, FAR);
            long got = x.sign(0, key);
            CHECK.same("sign by the secret " + secret, got, Bytes.signature(secret, BYTES));
            negative += got < 0 ? 1 : 0;
        }
        CHECK.yes("some have the highest bit, some don't: " + negative, negative > 0 && negative < 12);
    }

    private static void forgeNoRow() {
        SignQuorum x = openTimeRow();
        CHECK.no("forge(1, 0, 1), where there is one row", x.forge(1, 0, 1));
        for (int row : House.NEVER_NUMBERS) {
            CHECK.no("forge(" + row + ", 0, 1)", x.forge(row, 0, 1));
        }
    }

    private static void forgeByNoKey() {
        SignQuorum x = openTimeRow();
        CHECK.no("forge(0, 1, 1), where there is one key", x.forge(0, 1, 1));
        CHECK.no("forge(0, 19, 1), where there is one key", x.forge(0, 19, 1));
        for (int key : House.NEVER_NUMBERS) {
            CHECK.no("forge(0, " + key + ", 1)", x.forge(0, key, 1));
        }
        House.addKeys(x, 19);
        CHECK.no("forge(0, 20, 1), where there are twenty", x.forge(0, 20, 1));
        CHECK.yes("forge(0, 19, 1), where there are twenty", x.forge(0, 19, 1));
    }

    private static void forgeBehindTwelve() {
        SignQuorum x = openTimeRow();
        for (int i = 1; i <= 12; i++) {
            CHECK.yes("forge " + i, x.forge(0, 0, i));
        }
        CHECK.no("forge 13", x.forge(0, 0, 13));
        CHECK.no("forge 13, a right one", x.forge(0, 0, Bytes.signature(SECRET, BYTES)));
        CHECK.same("about(0, 2)", x.about(0, 2), 12);
        CHECK.same("about(0, 3)", x.about(0, 3), 0);
    }

    private static void twelveOfBoth() {
        SignQuorum x = openTimeRow();
        for (int i = 1; i <= 6; i++) {
            CHECK.yes("sign " + i, x.sign(0, 0) != 0);
            CHECK.yes("forge " + i, x.forge(0, 0, i));
            CHECK.same("about(0, 2)", x.about(0, 2), 2 * i);
        }
        CHECK.same("sign, where there are 12", x.sign(0, 0), 0);
        CHECK.no("forge, where there are 12", x.forge(0, 0, 1));
        CHECK.same("about(0, 2)", x.about(0, 2), 12);
    }

    private static void refusedForgeChangesNothing() {
        long right = Bytes.signature(SECRET, BYTES);
        Twins.stayAlike(CHECK, EdgesOfSignaturesTest::fillTimeRow, x -> {
            CHECK.no("forge(0, 1, right)", x.forge(0, 1, right));
            CHECK.no("forge(0, -1, right)", x.forge(0, -1, right));
            CHECK.no("forge(0, 32, right): 32 isn't 0", x.forge(0, 32, right));
            CHECK.no("forge(1, 0, right)", x.forge(1, 0, right));
            CHECK.no("forge(-1, 0, right)", x.forge(-1, 0, right));
        });
        long rightOfRoot = rightOfTwelveWrongOnes();
        Twins.stayAlike(CHECK, EdgesOfSignaturesTest::twelveWrongOnes,
            x -> CHECK.no("a right one, where there are 12", x.forge(0, 0, rightOfRoot)));
    }

    private static long rightOfTwelveWrongOnes() {
        return Bytes.signature(SECRET, Bytes.head(0, 1, FAR) + "0100000001" + "0100000000".repeat(9));
    }

    private static void refusedForgeLeavesOpen() {
        SignQuorum x = openTimeRow();
        CHECK.no("forge(0, 1, 1)", x.forge(0, 1, 1));
        CHECK.same("octet(0, 1)", x.octet(0, 1), 1);
        CHECK.yes("tells(0, 2, 1)", x.tells(0, 2, 1));
    }

    private static void forgeAnyNumber() {
        SignQuorum x = openTimeRow();
        long[] numbers = {0, -1, 1, Long.MIN_VALUE, Long.MAX_VALUE};
        for (int i = 0; i < numbers.length; i++) {
            CHECK.yes("forge(0, 0, " + numbers[i] + ")", x.forge(0, 0, numbers[i]));
            CHECK.same("about(0, 2)", x.about(0, 2), i + 1);
        }
        CHECK.same("about(0, 3): none is right", x.about(0, 3), 0);
    }

    private static void forgeTheRightNumber() {
        SignQuorum x = House.withRoot(CHECK);
        int row = x.row(1, 1, FAR);
        CHECK.same("verify without it", x.verify(row, 0), -3);
        CHECK.yes("forge of the right number", x.forge(row, 0, Bytes.signature(11, BYTES)));
        CHECK.same("it is right", x.about(row, 3), 1);
        CHECK.same("and counts for the quorum", x.verify(row, 0), 1);
    }

    private static void forgeOneBitOff() {
        long right = Bytes.signature(SECRET, BYTES);
        for (int bit = 0; bit < 64; bit++) {
            SignQuorum x = openTimeRow();
            CHECK.yes("forge with bit " + bit + " turned", x.forge(0, 0, right ^ (1L << bit)));
            CHECK.same("about(0, 3)", x.about(0, 3), 0);
        }
    }

    private static void forgeNumberOfAnotherKey() {
        SignQuorum x = openTimeRow();
        x.key(SECRET + 1, 0);
        x.key(SECRET, 0);
        long right = Bytes.signature(SECRET, BYTES);
        CHECK.yes("forge by another key", x.forge(0, 1, right));
        CHECK.same("about(0, 3): it isn't that key's", x.about(0, 3), 0);
        CHECK.yes("forge by another key of this secret", x.forge(0, 2, right));
        CHECK.same("about(0, 3): that is right", x.about(0, 3), 1);
        x.sign(0, 0);
        CHECK.same("about(0, 3): it counts beside the first", x.about(0, 3), 2);
    }

    private static void forgeNumberOfAnotherRow() {
        SignQuorum x = openTimeRow();
        x.row(1, 2, FAR);
        x.row(1, 1, FAR);
        long right = x.sign(0, 0);
        CHECK.yes("forge on a row of other bytes", x.forge(1, 0, right));
        CHECK.same("about(1, 3)", x.about(1, 3), 0);
        CHECK.yes("forge on a row of the same bytes", x.forge(2, 0, right));
        CHECK.same("about(2, 3)", x.about(2, 3), 1);
    }

    private static void forgeNumberOfEarlierBytes() {
        SignQuorum x = openTimeRow();
        x.octet(0, 0);
        CHECK.yes("forge of what was right without the octet", x.forge(0, 0, Bytes.signature(SECRET, BYTES)));
        CHECK.same("about(0, 3)", x.about(0, 3), 0);
        String now = Bytes.octetHead(1, 1, FAR, "00") + "00";
        CHECK.yes("forge of what is right with it", x.forge(0, 0, Bytes.signature(SECRET, now)));
        CHECK.same("about(0, 3)", x.about(0, 3), 1);
    }

    private static void wrongOnesBesideRightOnes() {
        SignQuorum x = House.withRoot(CHECK);
        int row = x.row(1, 1, FAR);
        x.forge(row, 0, 1);
        CHECK.same("a wrong one", x.verify(row, 0), -3);
        x.sign(row, 0);
        CHECK.same("a right one behind it", x.verify(row, 0), 1);
        x.forge(row, 0, 2);
        CHECK.same("a wrong one behind that", x.verify(row, 0), 1);
        CHECK.same("about: three signatures", x.about(row, 2), 3);
        CHECK.same("about: one key", x.about(row, 3), 1);
    }

    private static void twelveKeys() {
        SignQuorum x = new SignQuorum();
        House.addKeys(x, 20);
        x.row(1, 1, FAR);
        for (int i = 1; i <= 12; i++) {
            CHECK.yes("sign by key " + (20 - i), x.sign(0, 20 - i) != 0);
            CHECK.same("about(0, 3)", x.about(0, 3), i);
        }
        CHECK.same("sign by the thirteenth", x.sign(0, 0), 0);
        CHECK.same("about(0, 3)", x.about(0, 3), 12);
    }
}

/** The boundary cases of rows and of what is put into them: promises 5 to 9. */
public final class EdgesOfRowsTest {
    private static final long FAR = House.FAR;
    private static final int[] NO_PATHS = {0, -1, 0xf, 0x1f, 0xf1, 0x11111f, 0xf11111, 0x10, 0x101, 0x110,
        0x100000, 0x111110, 0x101111, 0x1000000, 0x1111111, 0xeeeeeee, 0x10000001, 0x11111111, Integer.MIN_VALUE,
        Integer.MIN_VALUE + 1, Integer.MAX_VALUE};
    private static final int[] NO_PATTERNS = {0, -1, 0x10, 0xf0, 0x101, 0xf0f, 0x110, 0x100000, 0xfffff0, 0xf0ffff,
        0x1000000, 0x1111111, 0xfffffff, 0x10000001, 0x11111111, Integer.MIN_VALUE, Integer.MIN_VALUE + 1,
        Integer.MAX_VALUE};

    private static final Check CHECK = new Check();

    public static void main(String[] args) {
        rows();
        octets();
        told();
        delegations();
        paths();
        CHECK.edge("Terms", "A ROW with a SIGNATURE is CLOSED, by a right one", () -> closedBy(true));
        CHECK.edge("Terms", "A ROW with a SIGNATURE is CLOSED, by a wrong one too", () -> closedBy(false));
        CHECK.edge("6 to 9", "NONE or false: nothing changes", EdgesOfRowsTest::refusedChangesChangeNothing);
        CHECK.end();
    }

    private static void rows() {
        CHECK.edge("5", "numbered from 0", EdgesOfRowsTest::rowsAreNumberedFromZero);
        CHECK.edge("5", "NONE if there is no such ROLE", EdgesOfRowsTest::rowOfNoRole);
        CHECK.edge("5", "NONE if the VERSION isn't so", EdgesOfRowsTest::rowOfNoVersion);
        CHECK.edge("Terms", "a VERSION (1 .. 1000000)", EdgesOfRowsTest::rowOfFirstAndLastVersion);
        CHECK.edge("5", "NONE if there are 24", EdgesOfRowsTest::noRowBehindTwentyFour);
        CHECK.edge("5", "NONE: nothing changes", EdgesOfRowsTest::refusedRowChangesNothing);
        CHECK.edge("Terms", "an UNTIL, the least and the greatest", EdgesOfRowsTest::rowsOfAllUntils);
        CHECK.edge("Terms", "has the DRAFT as it was when it was made", EdgesOfRowsTest::draftOfItsTime);
    }

    private static void octets() {
        CHECK.edge("6", "NONE if it has 16", EdgesOfRowsTest::noOctetBehindSixteen);
        CHECK.edge("6", "of b the lowest eight bits", EdgesOfRowsTest::octetsAreLowBits);
        CHECK.edge("6", "NONE if there is no such ROW", EdgesOfRowsTest::octetOfNoRow);
        CHECK.edge("6", "NONE if it is CLOSED", EdgesOfRowsTest::octetOfClosedRow);
        CHECK.edge("6", "a ROW of each ROLE", EdgesOfRowsTest::octetOfEachRole);
        CHECK.edge("6", "comes behind the others", EdgesOfRowsTest::octetsInOrder);
    }

    private static void told() {
        CHECK.edge("7", "TIME of SNAPSHOT alone", EdgesOfRowsTest::timeTellsOfSnapshotAlone);
        CHECK.edge("7", "SNAPSHOT of 3 .. 9", EdgesOfRowsTest::snapshotTellsOfThreeToNine);
        CHECK.edge("7", "false if it isn't of these", EdgesOfRowsTest::othersTellNothing);
        CHECK.edge("7", "false if the VERSION isn't 1 .. 1000000", EdgesOfRowsTest::toldVersions);
        CHECK.edge("7", "false if there is none such", EdgesOfRowsTest::noRowTells);
        CHECK.edge("7", "false if it is CLOSED", EdgesOfRowsTest::closedRowTellsNoMore);
        CHECK.edge("7", "in place of what it TOLD of that", EdgesOfRowsTest::toldInPlace);
        CHECK.edge("7", "in place, where all seven are TOLD", EdgesOfRowsTest::toldInPlaceWhereFull);
        CHECK.edge("7", "false: what it TOLD stays", EdgesOfRowsTest::refusedVersionLeavesTheOld);
    }

    private static void delegations() {
        CHECK.edge("8", "NONE if it isn't of 3 .. 9", EdgesOfRowsTest::delegationOfRoles);
        CHECK.edge("8", "NONE if the PATTERN is none", EdgesOfRowsTest::delegationOfNoPattern);
        CHECK.edge("Terms", "A PATTERN likewise, but its PARTS are 1 to 15", EdgesOfRowsTest::delegationOfPatterns);
        CHECK.edge("8", "NONE if the ROLE isn't 4 .. 9", EdgesOfRowsTest::delegationToRoles);
        CHECK.edge("8", "NONE if there are 6", EdgesOfRowsTest::noDelegationBehindSix);
        CHECK.edge("8", "NONE if there is no such ROW", EdgesOfRowsTest::delegationOfNoRow);
        CHECK.edge("8", "NONE if it is CLOSED", EdgesOfRowsTest::delegationOfClosedRow);
        CHECK.edge("8", "One DELEGATION more, though it is like another", EdgesOfRowsTest::likeDelegations);
        CHECK.edge("8", "whether it ENDS: 1 or 0", EdgesOfRowsTest::endsInBytes);
    }

    private static void paths() {
        CHECK.edge("9", "NONE if it isn't of 3 .. 9", EdgesOfRowsTest::pathOfRoles);
        CHECK.edge("9", "NONE if the PATH is none", EdgesOfRowsTest::noPaths);
        CHECK.edge("Terms", "A PATH: one to six PARTS, 1 to 14", EdgesOfRowsTest::allKindsOfPaths);
        CHECK.edge("9", "NONE if there are 6", EdgesOfRowsTest::noPathBehindSix);
        CHECK.edge("9", "One more PATH (again, too)", EdgesOfRowsTest::pathAgain);
        CHECK.edge("9", "NONE if there is no such ROW", EdgesOfRowsTest::pathOfNoRow);
        CHECK.edge("9", "NONE if it is CLOSED", EdgesOfRowsTest::pathOfClosedRow);
        CHECK.edge("8, 9", "six DELEGATIONS leave room for six PATHS", EdgesOfRowsTest::delegationsAndPathsAreApart);
    }

    /** One row of each role, the number being the role, version 1, until 0; and a key. */
    private static SignQuorum rowOfEachRole() {
        SignQuorum x = new SignQuorum();
        x.key(1, FAR);
        for (int role = 0; role <= 9; role++) {
            x.row(role, 1, 0);
        }
        return x;
    }

    private static SignQuorum oneRow(int role) {
        SignQuorum x = new SignQuorum();
        x.key(1, FAR);
        x.row(role, 1, 0);
        return x;
    }

    private static void rowsAreNumberedFromZero() {
        SignQuorum x = new SignQuorum();
        for (int i = 0; i < 24; i++) {
            CHECK.same("row " + i, x.row(i % 10, 1, 0), i);
        }
    }

    private static void rowOfNoRole() {
        SignQuorum x = new SignQuorum();
        for (int role : House.NO_ROLES) {
            CHECK.same("row(" + role + ", 1, 1)", x.row(role, 1, 1), -1);
        }
        CHECK.same("row(0, 1, 1) is the first", x.row(0, 1, 1), 0);
        CHECK.same("row(9, 1, 1) is the second", x.row(9, 1, 1), 1);
    }

    private static void rowOfNoVersion() {
        SignQuorum x = new SignQuorum();
        for (int version : House.NO_VERSIONS) {
            for (int role = 0; role <= 9; role++) {
                CHECK.same("row(" + role + ", " + version + ", 1)", x.row(role, version, 1), -1);
            }
        }
        CHECK.same("row(0, 1, 1) is the first", x.row(0, 1, 1), 0);
    }

    private static void rowOfFirstAndLastVersion() {
        SignQuorum x = new SignQuorum();
        x.row(1, 1, 0);
        x.row(1, 1000000, 0);
        CHECK.same("about(0, 1)", x.about(0, 1), 1);
        CHECK.same("about(1, 1)", x.about(1, 1), 1000000);
        Bytes.are(CHECK, "version 1", x, 0, "01" + "00000001" + "0000000000000000" + "00" + "00");
        Bytes.are(CHECK, "version 1000000", x, 1, "01" + "000f4240" + "0000000000000000" + "00" + "00");
    }

    private static void noRowBehindTwentyFour() {
        SignQuorum x = new SignQuorum();
        fillWithRows(x);
        for (int role = 0; role <= 9; role++) {
            CHECK.same("row(" + role + ", 1, 1), where there are 24", x.row(role, 1, 1), -1);
        }
        CHECK.same("about(24, 0)", x.about(24, 0), -1);
        CHECK.same("about(23, 0)", x.about(23, 0), 3);
    }

    private static void fillWithRows(SignQuorum x) {
        for (int i = 0; i < 24; i++) {
            CHECK.same("row " + i, x.row(i % 10, 1, FAR), i);
        }
    }

    private static void refusedRowChangesNothing() {
        Twins.stayAlike(CHECK, EdgesOfRowsTest::fillWithRows,
            x -> CHECK.same("row(0, 2, 1), where there are 24", x.row(0, 2, 1), -1));
        Twins.stayAlike(CHECK, x -> x.row(0, 1, FAR), x -> {
            CHECK.same("row(-1, 1, 1)", x.row(-1, 1, 1), -1);
            CHECK.same("row(10, 1, 1)", x.row(10, 1, 1), -1);
            CHECK.same("row(1, 0, 1)", x.row(1, 0, 1), -1);
            CHECK.same("row(1, 1000001, 1)", x.row(1, 1000001, 1), -1);
        });
    }

    private static void rowsOfAllUntils() {
        SignQuorum x = new SignQuorum();
        long[] untils = {0, -1, Long.MIN_VALUE, Long.MAX_VALUE, 0x80000000L, 0x0102030405060708L};
        String[] digits = {"0000000000000000", "ffffffffffffffff", "8000000000000000", "7fffffffffffffff",
            "0000000080000000", "0102030405060708"};
        for (int i = 0; i < untils.length; i++) {
            CHECK.same("row(1, 1, " + untils[i] + ")", x.row(1, 1, untils[i]), i);
            Bytes.are(CHECK, "until " + untils[i], x, i, "01" + "00000001" + digits[i] + "00" + "00");
        }
    }

    private static void draftOfItsTime() {
        SignQuorum x = new SignQuorum();
        x.key(1, FAR);
        x.row(0, 1, 0);
        x.quorum(9, 2);
        x.holds(9, 0, true);
        x.row(0, 1, 0);
        x.quorum(9, 1);
        x.holds(9, 0, false);
        String head = Bytes.head(0, 1, 0) + "0100000000".repeat(9);
        Bytes.are(CHECK, "the draft before", x, 0, head + "0100000000");
        Bytes.are(CHECK, "the draft between, though it is signed later", x, 1, head + "0200000001");
        x.sign(1, 0);
        Bytes.are(CHECK, "that row when signed", x, 1, head + "0200000001");
    }

    private static void noOctetBehindSixteen() {
        SignQuorum x = oneRow(1);
        for (int i = 1; i <= 16; i++) {
            CHECK.same("octet " + i, x.octet(0, i), i);
        }
        CHECK.same("octet 17", x.octet(0, 17), -1);
        CHECK.same("octet 18", x.octet(0, 18), -1);
        Bytes.are(CHECK, "sixteen octets", x, 0,
            Bytes.octetHead(1, 1, 0, "0102030405060708090a0b0c0d0e0f10") + "00");
    }

    private static void octetsAreLowBits() {
        int[] given = {0, 255, 256, -1, 0x1ff, 0x80, -128, -256, 0x7fffff01, Integer.MIN_VALUE, Integer.MAX_VALUE};
        SignQuorum x = oneRow(1);
        for (int i = 0; i < given.length; i++) {
            CHECK.same("octet(0, " + given[i] + ")", x.octet(0, given[i]), i + 1);
        }
        Bytes.are(CHECK, "lowest eight bits", x, 0, Bytes.octetHead(1, 1, 0, "00ff00ffff80800001" + "00ff") + "00");
    }

    private static void octetOfNoRow() {
        SignQuorum x = oneRow(1);
        CHECK.same("octet(1, 0), where there is one row", x.octet(1, 0), -1);
        for (int row : House.NEVER_NUMBERS) {
            CHECK.same("octet(" + row + ", 0)", x.octet(row, 0), -1);
        }
    }

    private static void octetOfClosedRow() {
        SignQuorum x = oneRow(1);
        CHECK.same("octet(0, 1)", x.octet(0, 1), 1);
        x.sign(0, 0);
        CHECK.same("octet(0, 1) when closed", x.octet(0, 1), -1);
        Bytes.are(CHECK, "one octet", x, 0, Bytes.octetHead(1, 1, 0, "01") + "00");
    }

    private static void octetOfEachRole() {
        SignQuorum x = rowOfEachRole();
        for (int role = 0; role <= 9; role++) {
            CHECK.same("octet of role " + role, x.octet(role, role), 1);
            CHECK.same("bytes of role " + role, x.hash(role), role == 0 ? 65 : role <= 2 ? 16 : 17);
        }
    }

    private static void octetsInOrder() {
        SignQuorum x = oneRow(9);
        x.octet(0, 3);
        x.octet(0, 1);
        x.octet(0, 1);
        x.octet(0, 2);
        Bytes.are(CHECK, "octets as they came", x, 0, Bytes.octetHead(9, 1, 0, "03010102") + "0000");
    }

    private static void timeTellsOfSnapshotAlone() {
        for (int role = 0; role <= 9; role++) {
            SignQuorum x = oneRow(1);
            CHECK.same("tells(0, " + role + ", 1)", x.tells(0, role, 1) ? 1 : 0, role == 2 ? 1 : 0);
            CHECK.same("about(0, 4)", x.about(0, 4), role == 2 ? 1 : 0);
        }
        tellsOfNoRole(1);
    }

    private static void snapshotTellsOfThreeToNine() {
        for (int role = 0; role <= 9; role++) {
            SignQuorum x = oneRow(2);
            CHECK.same("tells(0, " + role + ", 1)", x.tells(0, role, 1) ? 1 : 0, role >= 3 ? 1 : 0);
            CHECK.same("about(0, 4)", x.about(0, 4), role >= 3 ? 1 : 0);
        }
        tellsOfNoRole(2);
    }

    private static void tellsOfNoRole(int teller) {
        SignQuorum x = oneRow(teller);
        for (int role : House.NO_ROLES) {
            CHECK.no("tells(0, " + role + ", 1)", x.tells(0, role, 1));
        }
        CHECK.same("about(0, 4)", x.about(0, 4), 0);
    }

    private static void othersTellNothing() {
        SignQuorum x = rowOfEachRole();
        for (int row : new int[] {0, 3, 4, 5, 6, 7, 8, 9}) {
            for (int role = 0; role <= 9; role++) {
                CHECK.no("tells(" + row + ", " + role + ", 1)", x.tells(row, role, 1));
            }
            CHECK.same("about(" + row + ", 4)", x.about(row, 4), 0);
        }
    }

    private static void toldVersions() {
        for (int role = 1; role <= 2; role++) {
            SignQuorum x = oneRow(role);
            for (int version : House.NO_VERSIONS) {
                CHECK.no("tells(0, " + (role + 1) + ", " + version + ")", x.tells(0, role + 1, version));
            }
            CHECK.same("about(0, 4)", x.about(0, 4), 0);
            CHECK.yes("tells version 1", x.tells(0, role + 1, 1));
            CHECK.yes("tells version 1000000", x.tells(0, role + 1, 1000000));
            Bytes.are(CHECK, "the greatest version", x, 0, Bytes.head(role, 1, 0) + "010" + (role + 1) + "000f4240");
        }
    }

    private static void noRowTells() {
        SignQuorum x = oneRow(2);
        CHECK.no("tells(1, 3, 1), where there is one row", x.tells(1, 3, 1));
        for (int row : House.NEVER_NUMBERS) {
            CHECK.no("tells(" + row + ", 3, 1)", x.tells(row, 3, 1));
            CHECK.no("tells(" + row + ", 2, 1)", x.tells(row, 2, 1));
        }
    }

    private static void closedRowTellsNoMore() {
        SignQuorum x = oneRow(2);
        CHECK.yes("tells(0, 3, 5)", x.tells(0, 3, 5));
        x.sign(0, 0);
        CHECK.no("tells(0, 3, 6) when closed", x.tells(0, 3, 6));
        CHECK.no("tells(0, 3, 5) when closed", x.tells(0, 3, 5));
        CHECK.no("tells(0, 4, 1) when closed", x.tells(0, 4, 1));
        Bytes.are(CHECK, "what it told", x, 0, Bytes.head(2, 1, 0) + "01" + "0300000005");
    }

    private static void toldInPlace() {
        SignQuorum x = oneRow(2);
        x.tells(0, 9, 2);
        x.tells(0, 4, 3);
        CHECK.yes("tells(0, 9, 1), a lesser one", x.tells(0, 9, 1));
        CHECK.yes("tells(0, 4, 3), the same", x.tells(0, 4, 3));
        CHECK.same("about(0, 4)", x.about(0, 4), 2);
        Bytes.are(CHECK, "in the order of the first time", x, 0,
            Bytes.head(2, 1, 0) + "02" + "0900000001" + "0400000003");
    }

    private static void toldInPlaceWhereFull() {
        SignQuorum x = oneRow(2);
        StringBuilder due = new StringBuilder(Bytes.head(2, 1, 0) + "07");
        for (int role = 9; role >= 3; role--) {
            CHECK.yes("tells(0, " + role + ", 1)", x.tells(0, role, 1));
            due.append("0").append(role).append("00000007");
        }
        for (int role = 3; role <= 9; role++) {
            CHECK.yes("tells(0, " + role + ", 7)", x.tells(0, role, 7));
        }
        CHECK.no("tells(0, 2, 1), where all are told", x.tells(0, 2, 1));
        CHECK.no("tells(0, 10, 1), where all are told", x.tells(0, 10, 1));
        CHECK.same("about(0, 4)", x.about(0, 4), 7);
        Bytes.are(CHECK, "all seven", x, 0, due.toString());
    }

    private static void refusedVersionLeavesTheOld() {
        SignQuorum x = oneRow(1);
        x.tells(0, 2, 8);
        for (int version : House.NO_VERSIONS) {
            CHECK.no("tells(0, 2, " + version + ")", x.tells(0, 2, version));
        }
        Bytes.are(CHECK, "version 8 still", x, 0, Bytes.head(1, 1, 0) + "01" + "0200000008");
    }

    private static void delegationOfRoles() {
        SignQuorum x = rowOfEachRole();
        for (int role = 0; role <= 9; role++) {
            CHECK.same("delegate of role " + role, x.delegate(role, 1, 4, false), role < 3 ? -1 : 1);
            CHECK.same("about(" + role + ", 5)", x.about(role, 5), role < 3 ? 0 : 1);
        }
    }

    private static void delegationOfNoPattern() {
        SignQuorum x = oneRow(3);
        for (int pattern : NO_PATTERNS) {
            CHECK.same("delegate(0, " + pattern + ", 4, true)", x.delegate(0, pattern, 4, true), -1);
        }
        CHECK.same("about(0, 5)", x.about(0, 5), 0);
    }

    private static void delegationOfPatterns() {
        int[] patterns = {0x1, 0xe, 0xf, 0x11, 0xff, 0x1f1, 0xf1f, 0x1111, 0xffff, 0x1111f, 0xfffff, 0x111111,
            0xffffff, 0xf11111, 0x11111f, 0x123456, 0x789abc, 0xdef123};
        for (int pattern : patterns) {
            CHECK.same("delegate(0, " + pattern + ", 4, true)", oneRow(3).delegate(0, pattern, 4, true), 1);
        }
    }

    private static void delegationToRoles() {
        for (int to = 0; to <= 9; to++) {
            CHECK.same("delegate(0, 1, " + to + ", true)", oneRow(9).delegate(0, 1, to, true), to < 4 ? -1 : 1);
        }
        for (int to : House.NO_ROLES) {
            CHECK.same("delegate(0, 1, " + to + ", true)", oneRow(3).delegate(0, 1, to, true), -1);
        }
        for (int role = 4; role <= 9; role++) {
            CHECK.same("delegate of " + role + " to itself", oneRow(role).delegate(0, 1, role, true), 1);
        }
    }

    private static void noDelegationBehindSix() {
        SignQuorum x = oneRow(3);
        for (int i = 1; i <= 6; i++) {
            CHECK.same("delegation " + i, x.delegate(0, i, 3 + i, i % 2 == 0), i);
        }
        CHECK.same("delegation 7", x.delegate(0, 7, 4, true), -1);
        CHECK.same("delegation 7, like the first", x.delegate(0, 1, 4, false), -1);
        CHECK.same("about(0, 5)", x.about(0, 5), 6);
        Bytes.are(CHECK, "six", x, 0, Bytes.head(3, 1, 0) + "06" + "000000010400" + "000000020501" + "000000030600"
            + "000000040701" + "000000050800" + "000000060901" + "00");
    }

    private static void delegationOfNoRow() {
        SignQuorum x = oneRow(3);
        CHECK.same("delegate(1, 1, 4, true), where there is one row", x.delegate(1, 1, 4, true), -1);
        for (int row : House.NEVER_NUMBERS) {
            CHECK.same("delegate(" + row + ", 1, 4, true)", x.delegate(row, 1, 4, true), -1);
        }
    }

    private static void delegationOfClosedRow() {
        SignQuorum x = oneRow(3);
        CHECK.same("delegate(0, 1, 4, true)", x.delegate(0, 1, 4, true), 1);
        x.sign(0, 0);
        CHECK.same("delegate(0, 2, 5, true) when closed", x.delegate(0, 2, 5, true), -1);
        CHECK.same("about(0, 5)", x.about(0, 5), 1);
    }

    private static void likeDelegations() {
        SignQuorum x = oneRow(3);
        for (int i = 1; i <= 6; i++) {
            CHECK.same("delegation " + i, x.delegate(0, 0xf, 9, true), i);
        }
        Bytes.are(CHECK, "six like ones", x, 0, Bytes.head(3, 1, 0) + "06" + "0000000f0901".repeat(6) + "00");
    }

    private static void endsInBytes() {
        SignQuorum x = oneRow(3);
        x.delegate(0, 0xffffff, 4, true);
        x.delegate(0, 0xffffff, 4, false);
        Bytes.are(CHECK, "1 and 0", x, 0, Bytes.head(3, 1, 0) + "02" + "00ffffff0401" + "00ffffff0400" + "00");
    }

    private static void pathOfRoles() {
        SignQuorum x = rowOfEachRole();
        for (int role = 0; role <= 9; role++) {
            CHECK.same("lists of role " + role, x.lists(role, 1), role < 3 ? -1 : 1);
            CHECK.same("about(" + role + ", 6)", x.about(role, 6), role < 3 ? 0 : 1);
        }
    }

    private static void noPaths() {
        SignQuorum x = oneRow(3);
        for (int path : NO_PATHS) {
            CHECK.same("lists(0, " + path + ")", x.lists(0, path), -1);
        }
        CHECK.same("about(0, 6)", x.about(0, 6), 0);
    }

    private static void allKindsOfPaths() {
        int[] paths = {0x1, 0xe, 0x11, 0xee, 0x111, 0xeee, 0x1111, 0xeeee, 0x11111, 0xeeeee, 0x111111, 0xeeeeee,
            0x1e1e1e, 0x123456, 0x789abc, 0xde1234};
        for (int path : paths) {
            CHECK.same("lists(0, " + path + ")", oneRow(3).lists(0, path), 1);
        }
        for (int path = 1; path < 15; path++) {
            CHECK.same("lists(0, " + path + ")", oneRow(9).lists(0, path), 1);
        }
    }

    private static void noPathBehindSix() {
        SignQuorum x = oneRow(9);
        for (int i = 1; i <= 6; i++) {
            CHECK.same("path " + i, x.lists(0, 0x10 + i), i);
        }
        CHECK.same("path 7", x.lists(0, 0x17), -1);
        CHECK.same("path 7, like the first", x.lists(0, 0x11), -1);
        Bytes.are(CHECK, "six", x, 0, Bytes.head(9, 1, 0) + "00" + "06" + "00000011" + "00000012" + "00000013"
            + "00000014" + "00000015" + "00000016");
    }

    private static void pathAgain() {
        SignQuorum x = oneRow(9);
        for (int i = 1; i <= 6; i++) {
            CHECK.same("path " + i, x.lists(0, 0xeeeeee), i);
        }
        CHECK.same("about(0, 6)", x.about(0, 6), 6);
        Bytes.are(CHECK, "six like ones", x, 0, Bytes.head(9, 1, 0) + "00" + "06" + "00eeeeee".repeat(6));
    }

    private static void pathOfNoRow() {
        SignQuorum x = oneRow(3);
        CHECK.same("lists(1, 1), where there is one row", x.lists(1, 1), -1);
        for (int row : House.NEVER_NUMBERS) {
            CHECK.same("lists(" + row + ", 1)", x.lists(row, 1), -1);
        }
    }

    private static void pathOfClosedRow() {
        SignQuorum x = oneRow(3);
        CHECK.same("lists(0, 1)", x.lists(0, 1), 1);
        x.sign(0, 0);
        CHECK.same("lists(0, 1) when closed", x.lists(0, 1), -1);
        CHECK.same("about(0, 6)", x.about(0, 6), 1);
    }

    private static void delegationsAndPathsAreApart() {
        SignQuorum x = oneRow(3);
        for (int i = 1; i <= 6; i++) {
            CHECK.same("delegation " + i, x.delegate(0, 1, 4, true), i);
        }
        for (int i = 1; i <= 6; i++) {
            CHECK.same("path " + i, x.lists(0, 1), i);
        }
        for (int i = 1; i <= 16; i++) {
            CHECK.same("octet " + i, x.octet(0, 1), i);
        }
    }

    private static void closedBy(boolean right) {
        SignQuorum x = rowOfEachRole();
        for (int row = 0; row <= 9; row++) {
            int length = x.hash(row);
            if (right) {
                x.sign(row, 0);
            } else {
                CHECK.yes("forge(" + row + ", 0, 0)", x.forge(row, 0, 0));
            }
            CHECK.same("octet(" + row + ", 1)", x.octet(row, 1), -1);
            CHECK.no("tells(" + row + ", 2, 1)", x.tells(row, 2, 1));
            CHECK.no("tells(" + row + ", 3, 1)", x.tells(row, 3, 1));
            CHECK.same("delegate(" + row + ", 1, 4, true)", x.delegate(row, 1, 4, true), -1);
            CHECK.same("lists(" + row + ", 1)", x.lists(row, 1), -1);
            CHECK.same("hash(" + row + ")", x.hash(row), length);
            CHECK.yes("a closed row may be signed more", x.sign(row, 0) != 0);
        }
    }

    private static void refusedChangesChangeNothing() {
        Twins.stayAlike(CHECK, EdgesOfRowsTest::openAndClosedRows, x -> {
            for (int row : new int[] {-1, 5, 24, 4}) {
                CHECK.same("octet(" + row + ", 1)", x.octet(row, 1), -1);
                CHECK.no("tells(" + row + ", 4, 1)", x.tells(row, 4, 1));
                CHECK.same("delegate(" + row + ", 1, 4, true)", x.delegate(row, 1, 4, true), -1);
                CHECK.same("lists(" + row + ", 1)", x.lists(row, 1), -1);
            }
            for (int row = 0; row <= 2; row++) {
                CHECK.same("delegate(" + row + ", 1, 4, true)", x.delegate(row, 1, 4, true), -1);
                CHECK.same("lists(" + row + ", 1)", x.lists(row, 1), -1);
                CHECK.no("tells(" + row + ", 0, 1)", x.tells(row, 0, 1));
                CHECK.no("tells(" + row + ", " + (row + 1) + ", 0)", x.tells(row, row + 1, 0));
            }
            CHECK.same("delegate(3, 0x10, 4, true)", x.delegate(3, 0x10, 4, true), -1);
            CHECK.same("delegate(3, 1, 3, true)", x.delegate(3, 1, 3, true), -1);
            CHECK.same("lists(3, 0xf)", x.lists(3, 0xf), -1);
            CHECK.no("tells(3, 3, 1)", x.tells(3, 3, 1));
        });
    }

    /** Rows 0 .. 3 are open, of the roles 0 .. 3; row 4, a snapshot, is closed. */
    private static void openAndClosedRows(SignQuorum x) {
        x.key(1, FAR);
        for (int role = 0; role <= 3; role++) {
            x.row(role, 1, FAR);
            x.octet(role, role);
        }
        x.row(2, 1, FAR);
        x.tells(4, 3, 1);
        x.forge(4, 0, 1);
    }
}

/** The boundary cases of finding a path: promise 15. */
public final class EdgesOfFindingTest {
    private static final long FAR = House.FAR;
    private static final int[] NOTHING = {};

    private static final Check CHECK = new Check();

    public static void main(String[] args) {
        paths();
        patterns();
        delegations();
        CHECK.end();
    }

    private static void paths() {
        CHECK.edge("15", "NONE if it is no PATH", EdgesOfFindingTest::noPath);
        CHECK.edge("15", "TARGETS (if there is a CURRENT ROW)", EdgesOfFindingTest::noTargets);
        CHECK.edge("15", "its CURRENT ROW, not one that isn't", EdgesOfFindingTest::rowsThatAreNotCurrent);
        CHECK.edge("15", "its CURRENT ROW, not the one before", EdgesOfFindingTest::rowsThatWereCurrent);
        CHECK.edge("15", "its CURRENT ROW, ALIVE or not", EdgesOfFindingTest::deadRows);
        CHECK.edge("15", "LISTS the PATH, and not a part of it", EdgesOfFindingTest::justThisPath);
        CHECK.edge("15", "LISTS: the first of six PATHS, and the last", EdgesOfFindingTest::sixPaths);
        CHECK.edge("15", "LISTS nothing", EdgesOfFindingTest::emptyTargets);
        CHECK.edge("15", "one PART, and six", EdgesOfFindingTest::shortestAndLongest);
        CHECK.edge("15", "LISTS comes before DELEGATIONS", EdgesOfFindingTest::listsBeforeDelegations);
        CHECK.edge("15", "in no ROLE that no DELEGATION names", EdgesOfFindingTest::unnamedRoles);
        CHECK.edge("15", "again: what was SEARCHED counts in one call", EdgesOfFindingTest::findAgain);
    }

    private static void patterns() {
        CHECK.edge("FITS", "not more PARTS", EdgesOfFindingTest::partsOfPatterns);
        CHECK.edge("FITS", "each, from the first on", EdgesOfFindingTest::fromTheFirstOn);
        CHECK.edge("FITS", "or 15", EdgesOfFindingTest::anyPart);
        CHECK.edge("FITS", "14 is no 15", EdgesOfFindingTest::fourteenIsNotAny);
        CHECK.edge("FITS", "each PART, at each place", EdgesOfFindingTest::eachPartCounts);
    }

    private static void delegations() {
        CHECK.edge("15", "for each of its DELEGATIONS, in order", EdgesOfFindingTest::inOrder);
        CHECK.edge("15", "six DELEGATIONS: the last", EdgesOfFindingTest::sixDelegations);
        CHECK.edge("15", "SEARCHED below first, then the next", EdgesOfFindingTest::depthFirst);
        CHECK.edge("15", "if it has a CURRENT ROW", EdgesOfFindingTest::roleWithoutRow);
        CHECK.edge("15", "if it wasn't yet SEARCHED", EdgesOfFindingTest::roleSearchedBefore);
        CHECK.edge("15", "the DELEGATION ENDS: all is over", EdgesOfFindingTest::endsAll);
        CHECK.edge("15", "ENDS, but it is found by that", EdgesOfFindingTest::endsAndFound);
        CHECK.edge("15", "ENDS, but doesn't FIT", EdgesOfFindingTest::endsAndDoesNotFit);
        CHECK.edge("15", "also where it isn't SEARCHED: without a ROW", EdgesOfFindingTest::endsWithoutRow);
        CHECK.edge("15", "also where it isn't SEARCHED: SEARCHED before", EdgesOfFindingTest::endsAtSearchedRole);
        CHECK.edge("15", "all is over: above too", EdgesOfFindingTest::endsFromBelow);
        CHECK.edge("15", "a ROLE that names itself", EdgesOfFindingTest::namesItself);
        CHECK.edge("15", "ROLES that name one another", EdgesOfFindingTest::rings);
        CHECK.edge("15", "all seven ROLES, one below the other", EdgesOfFindingTest::deepest);
        CHECK.edge("15", "all ROLES name all ROLES", EdgesOfFindingTest::allNameAll);
    }

    /** Role 3 + i has the delegations given[i], three numbers each: pattern, role, 1 if it ends; and lists[i], if not 0. */
    private static SignQuorum roles(int[][] given, int... lists) {
        SignQuorum x = House.withSnapshot(CHECK);
        for (int i = 0; i < given.length; i++) {
            takeRole(x, 3 + i, given[i], lists[i]);
        }
        return x;
    }

    private static void takeRole(SignQuorum x, int role, int[] given, int listed) {
        int row = x.row(role, 1, FAR);
        for (int j = 0; j < given.length; j += 3) {
            x.delegate(row, given[j], given[j + 1], given[j + 2] == 1);
        }
        if (listed != 0) {
            x.lists(row, listed);
        }
        House.take(CHECK, x, row);
    }

    private static void noPath() {
        SignQuorum x = roles(new int[][] {{0xf, 4, 0, 0xff, 4, 0}, NOTHING}, 0xe, 0xeeeeee);
        int[] none = {0, -1, 0xf, 0x1f, 0xf1, 0xef, 0xfe, 0x10, 0xe0, 0x101, 0xeeeee0, 0xffffff, 0xfeeeee, 0xeeeeef,
            0x1000000, 0x1111111, 0xeeeeeee, 0x1000000e, 0x10eeeeee, 0x11eeeeee, Integer.MIN_VALUE, 0x8000000e,
            Integer.MAX_VALUE};
        for (int path : none) {
            CHECK.same("find(" + path + ")", x.find(path), -1);
        }
        CHECK.same("find(0xe)", x.find(0xe), 3);
        CHECK.same("find(0xeeeeee)", x.find(0xeeeeee), 4);
    }

    private static void noTargets() {
        CHECK.same("find(1) of a new object", new SignQuorum().find(1), -1);
        SignQuorum x = House.withSnapshot(CHECK);
        CHECK.same("find(1) without targets", x.find(1), -1);
        takeRole(x, 4, NOTHING, 1);
        CHECK.same("find(1), where role 4 lists it", x.find(1), -1);
        takeRole(x, 3, new int[] {1, 4, 0}, 0);
        CHECK.same("find(1) with targets", x.find(1), 4);
    }

    private static void rowsThatAreNotCurrent() {
        SignQuorum x = House.withSnapshot(CHECK);
        int targets = x.row(3, 1, FAR);
        x.lists(targets, 1);
        x.sign(targets, 0);
        CHECK.same("find(1) before update", x.find(1), -1);
        CHECK.same("verify", x.verify(targets, 0), 1);
        CHECK.same("find(1) behind verify", x.find(1), -1);
        CHECK.same("update", x.update(targets, 0), 1);
        CHECK.same("find(1) behind update", x.find(1), 3);
    }

    private static void rowsThatWereCurrent() {
        SignQuorum x = House.withSnapshot(CHECK);
        takeRole(x, 3, new int[] {2, 4, 0}, 1);
        takeRole(x, 4, NOTHING, 2);
        CHECK.same("find(1)", x.find(1), 3);
        CHECK.same("find(2)", x.find(2), 4);
        takeRole(x, 3, NOTHING, 3);
        CHECK.same("find(1) behind another row", x.find(1), -1);
        CHECK.same("find(2) behind another row", x.find(2), -1);
        CHECK.same("find(3) behind another row", x.find(3), 3);
    }

    private static void deadRows() {
        SignQuorum x = House.withSnapshot(CHECK);
        int targets = x.row(3, 1, Long.MIN_VALUE + 1);
        x.lists(targets, 1);
        x.sign(targets, 0);
        CHECK.same("update at the least t", x.update(targets, Long.MIN_VALUE), 1);
        x.revoke(0);
        CHECK.same("find(1)", x.find(1), 3);
    }

    private static void justThisPath() {
        SignQuorum x = roles(new int[][] {NOTHING}, 0x123);
        CHECK.same("find(0x123)", x.find(0x123), 3);
        for (int path : new int[] {0x1, 0x12, 0x23, 0x3, 0x1231, 0x1123, 0x122, 0x124, 0x223, 0x113}) {
            CHECK.same("find(" + Integer.toHexString(path) + ")", x.find(path), -1);
        }
    }

    private static void sixPaths() {
        SignQuorum x = House.withSnapshot(CHECK);
        int targets = x.row(3, 1, FAR);
        for (int path = 1; path <= 7; path++) {
            x.lists(targets, path);
        }
        House.take(CHECK, x, targets);
        for (int path = 1; path <= 7; path++) {
            CHECK.same("find(" + path + ")", x.find(path), path <= 6 ? 3 : -1);
        }
    }

    private static void emptyTargets() {
        SignQuorum x = roles(new int[][] {NOTHING}, 0);
        for (int path : new int[] {1, 0xe, 0x12, 0xeeeeee}) {
            CHECK.same("find(" + path + ")", x.find(path), -1);
        }
    }

    private static void shortestAndLongest() {
        for (int path : new int[] {0x1, 0xe, 0x111111, 0xeeeeee, 0x123456}) {
            CHECK.same("find in targets", roles(new int[][] {NOTHING}, path).find(path), 3);
            CHECK.same("find below", roles(new int[][] {{0xf, 4, 1}, NOTHING}, 0, path).find(path), 4);
        }
    }

    private static void listsBeforeDelegations() {
        CHECK.same("find(1), where both list it", roles(new int[][] {{1, 4, 1}, NOTHING}, 1, 1).find(1), 3);
        CHECK.same("find(1), where a delegation without a row ends", roles(new int[][] {{1, 9, 1}}, 1).find(1), 3);
    }

    private static void unnamedRoles() {
        SignQuorum x = roles(new int[][] {{1, 5, 0}, NOTHING, NOTHING, NOTHING}, 0, 1, 0, 1);
        CHECK.same("find(1), which the roles 4 and 6 list", x.find(1), -1);
    }

    private static void findAgain() {
        SignQuorum x = roles(new int[][] {{1, 4, 0}, {1, 5, 0}, NOTHING}, 0, 0, 1);
        for (int i = 0; i < 5; i++) {
            CHECK.same("find(1)", x.find(1), 5);
            CHECK.same("find(2)", x.find(2), -1);
        }
    }

    private static int findBy(int pattern, int path) {
        return roles(new int[][] {{pattern, 4, 0}, NOTHING}, 0, path).find(path);
    }

    private static void fits(boolean due, int pattern, int path) {
        CHECK.same(Integer.toHexString(pattern) + " for " + Integer.toHexString(path), findBy(pattern, path), due ? 4 : -1);
    }

    private static void partsOfPatterns() {
        int[] ones = {0x1, 0x11, 0x111, 0x1111, 0x11111, 0x111111};
        int[] anys = {0xf, 0xff, 0xfff, 0xffff, 0xfffff, 0xffffff};
        for (int i = 0; i < 6; i++) {
            for (int j = 0; j < 6; j++) {
                fits(i <= j, ones[i], ones[j]);
                fits(i <= j, anys[i], ones[j]);
            }
        }
    }

    private static void fromTheFirstOn() {
        fits(true, 0x12, 0x12);
        fits(true, 0x12, 0x123456);
        fits(false, 0x12, 0x212);
        fits(false, 0x12, 0x345612);
        fits(false, 0x2, 0x12);
        fits(false, 0x6, 0x123456);
        fits(false, 0x123, 0x23);
        fits(false, 0x23, 0x123);
    }

    private static void anyPart() {
        fits(true, 0xf, 0x1);
        fits(true, 0xf, 0xe);
        fits(true, 0xf2, 0x12);
        fits(true, 0xf2, 0xe2);
        fits(false, 0xf2, 0x21);
        fits(true, 0x1f3, 0x1e3);
        fits(false, 0x1f3, 0x1e4);
        fits(false, 0x1f3, 0x13);
        fits(true, 0x12f, 0x123);
        fits(false, 0x12f, 0x12);
        fits(true, 0xf2f4f6, 0x123456);
        fits(false, 0xf2f4f6, 0x123455);
        fits(true, 0x12345f, 0x12345e);
    }

    private static void fourteenIsNotAny() {
        fits(true, 0xe, 0xe);
        fits(false, 0xe, 0x1);
        fits(false, 0xe, 0xd);
        fits(true, 0xeeeeee, 0xeeeeee);
        fits(false, 0x1e, 0x11);
    }

    private static void eachPartCounts() {
        int path = 0x123456;
        for (int place = 0; place < 6; place++) {
            int shift = 4 * place;
            fits(false, path ^ (0x8 << shift), path);
            fits(false, path + (1 << shift), path);
            fits(true, path | (0xf << shift), path);
        }
    }

    private static void inOrder() {
        CHECK.same("5 before 4", roles(new int[][] {{1, 5, 0, 1, 4, 0}, NOTHING, NOTHING}, 0, 1, 1).find(1), 5);
        CHECK.same("4 before 5", roles(new int[][] {{1, 4, 0, 1, 5, 0}, NOTHING, NOTHING}, 0, 1, 1).find(1), 4);
    }

    private static void sixDelegations() {
        int[] six = {1, 4, 0, 1, 5, 0, 1, 6, 0, 1, 7, 0, 1, 8, 0, 1, 9, 0};
        int[][] given = {six, NOTHING, NOTHING, NOTHING, NOTHING, NOTHING, NOTHING};
        CHECK.same("the last of six", roles(given, 0, 0, 0, 0, 0, 0, 1).find(1), 9);
        CHECK.same("none of six", roles(given, 0, 0, 0, 0, 0, 0, 0).find(1), -1);
        CHECK.same("the last of six fits alone", roles(new int[][] {{2, 5, 1, 2, 5, 1, 2, 5, 1, 2, 5, 1, 2, 5, 1, 1, 4,
            1}, NOTHING}, 0, 1).find(1), 4);
    }

    private static void depthFirst() {
        CHECK.same("below 4 before 5", roles(new int[][] {{1, 4, 0, 1, 5, 0}, {1, 6, 0}, NOTHING, NOTHING}, 0, 0, 1, 1)
            .find(1), 6);
        CHECK.same("5, nothing being below 4", roles(new int[][] {{1, 4, 0, 1, 5, 0}, {1, 6, 0}, NOTHING, NOTHING}, 0,
            0, 1, 0).find(1), 5);
    }

    private static void roleWithoutRow() {
        CHECK.same("on behind it", roles(new int[][] {{1, 9, 0, 1, 4, 0}, NOTHING}, 0, 1).find(1), 4);
        CHECK.same("nothing behind it", roles(new int[][] {{1, 9, 0}}, 0).find(1), -1);
        SignQuorum x = roles(new int[][] {{1, 9, 0, 1, 4, 0}, NOTHING}, 0, 1);
        takeRole(x, 9, NOTHING, 1);
        CHECK.same("when it has one", x.find(1), 9);
    }

    private static void roleSearchedBefore() {
        CHECK.same("on behind it", roles(new int[][] {{1, 4, 0, 1, 4, 0, 1, 5, 0}, NOTHING, NOTHING}, 0, 0, 1).find(1),
            5);
        CHECK.same("by two ways", roles(new int[][] {{1, 4, 0, 1, 5, 0}, {1, 6, 0}, {1, 6, 0, 1, 7, 0}, NOTHING,
            NOTHING}, 0, 0, 0, 0, 1).find(1), 7);
        // 4 waits for 5 and 5 for 6, which names 4: what stands behind 5 in 4 must come behind what is left in 6.
        CHECK.same("not again from below", roles(new int[][] {{1, 4, 0}, {1, 5, 0, 1, 7, 0}, {1, 6, 0}, {1, 4, 0, 1, 8,
            0}, NOTHING, NOTHING}, 0, 0, 0, 0, 1, 1).find(1), 8);
        CHECK.same("not again from below, where it would end", roles(new int[][] {{1, 4, 0}, {1, 5, 0, 1, 7, 1}, {1, 6,
            0}, {1, 4, 0, 1, 8, 0}, NOTHING, NOTHING}, 0, 0, 0, 0, 0, 1).find(1), 8);
    }

    private static void endsAll() {
        CHECK.same("over", roles(new int[][] {{1, 4, 1, 1, 5, 0}, NOTHING, NOTHING}, 0, 0, 1).find(1), -1);
        CHECK.same("not over", roles(new int[][] {{1, 4, 0, 1, 5, 0}, NOTHING, NOTHING}, 0, 0, 1).find(1), 5);
        CHECK.same("over by the last one", roles(new int[][] {{1, 4, 0, 1, 5, 1}, NOTHING, NOTHING}, 0, 0, 2).find(1),
            -1);
    }

    private static void endsAndFound() {
        CHECK.same("found", roles(new int[][] {{1, 4, 1}, NOTHING}, 0, 1).find(1), 4);
        CHECK.same("found below", roles(new int[][] {{1, 4, 1}, {1, 5, 1}, NOTHING}, 0, 0, 1).find(1), 5);
    }

    private static void endsAndDoesNotFit() {
        CHECK.same("on", roles(new int[][] {{2, 4, 1, 1, 5, 0}, NOTHING, NOTHING}, 0, 0, 1).find(1), 5);
        CHECK.same("on, it having more parts", roles(new int[][] {{0x11, 4, 1, 1, 5, 0}, NOTHING, NOTHING}, 0, 0, 1)
            .find(1), 5);
    }

    private static void endsWithoutRow() {
        CHECK.same("over", roles(new int[][] {{1, 9, 1, 1, 4, 0}, NOTHING}, 0, 1).find(1), -1);
    }

    private static void endsAtSearchedRole() {
        CHECK.same("over", roles(new int[][] {{1, 4, 0, 1, 4, 1, 1, 5, 0}, NOTHING, NOTHING}, 0, 0, 1).find(1), -1);
        CHECK.same("over, searched by another way", roles(new int[][] {{1, 4, 0, 1, 5, 1, 1, 6, 0}, {1, 5, 0}, NOTHING,
            NOTHING}, 0, 0, 0, 1).find(1), -1);
    }

    private static void endsFromBelow() {
        CHECK.same("from one below", roles(new int[][] {{1, 4, 0, 1, 6, 0}, {1, 5, 1}, NOTHING, NOTHING}, 0, 0, 0, 1)
            .find(1), -1);
        CHECK.same("from two below", roles(new int[][] {{1, 4, 0, 1, 7, 0}, {1, 5, 0, 1, 7, 0}, {1, 6, 1, 1, 7, 0},
            NOTHING, NOTHING}, 0, 0, 0, 0, 1).find(1), -1);
        CHECK.same("nothing ends below", roles(new int[][] {{1, 4, 0, 1, 7, 0}, {1, 5, 0}, {1, 6, 0}, NOTHING, NOTHING},
            0, 0, 0, 0, 1).find(1), 7);
    }

    private static void namesItself() {
        CHECK.same("on behind it", roles(new int[][] {{1, 4, 0}, {1, 4, 0, 1, 5, 0}, NOTHING}, 0, 0, 1).find(1), 5);
        CHECK.same("over behind it", roles(new int[][] {{1, 4, 0, 1, 5, 0}, {1, 4, 1}, NOTHING}, 0, 0, 1).find(1), -1);
        CHECK.same("nothing else", roles(new int[][] {{1, 4, 0}, {1, 4, 0}}, 0, 0).find(1), -1);
    }

    private static void rings() {
        CHECK.same("a ring of two", roles(new int[][] {{1, 4, 0}, {1, 5, 0}, {1, 4, 0}}, 0, 0, 0).find(1), -1);
        CHECK.same("a way out of it", roles(new int[][] {{1, 4, 0}, {1, 5, 0}, {1, 4, 0, 1, 6, 0}, NOTHING}, 0, 0, 0, 1)
            .find(1), 6);
        CHECK.same("a ring that ends", roles(new int[][] {{1, 4, 0, 1, 6, 0}, {1, 5, 0}, {1, 4, 1}, NOTHING}, 0, 0, 0, 1)
            .find(1), -1);
    }

    private static void deepest() {
        int[][] given = {{1, 4, 1}, {1, 5, 1}, {1, 6, 1}, {1, 7, 1}, {1, 8, 1}, {1, 9, 1}, NOTHING};
        CHECK.same("from 3 to 9", roles(given, 0, 0, 0, 0, 0, 0, 1).find(1), 9);
        CHECK.same("to none", roles(given, 0, 0, 0, 0, 0, 0, 0).find(1), -1);
        given[6] = new int[] {1, 4, 0};
        CHECK.same("to none, and round", roles(given, 0, 0, 0, 0, 0, 0, 0).find(1), -1);
    }

    private static void allNameAll() {
        int[] up = {0xf, 4, 0, 0xf, 5, 0, 0xf, 6, 0, 0xf, 7, 0, 0xf, 8, 0, 0xf, 9, 0};
        int[] down = {0xf, 9, 0, 0xf, 8, 0, 0xf, 7, 0, 0xf, 6, 0, 0xf, 5, 0, 0xf, 4, 0};
        int[][] upwards = {up, up, up, up, up, up, up};
        int[][] downwards = {down, down, down, down, down, down, down};
        CHECK.same("the last, upwards", roles(upwards, 0, 0, 0, 0, 0, 0, 1).find(1), 9);
        CHECK.same("the last, downwards", roles(downwards, 0, 1, 0, 0, 0, 0, 0).find(1), 4);
        CHECK.same("the first of two, upwards", roles(upwards, 0, 0, 0, 1, 0, 0, 1).find(1), 6);
        CHECK.same("the first of two, downwards", roles(downwards, 0, 0, 0, 1, 0, 0, 1).find(1), 9);
        CHECK.same("none", roles(upwards, 0, 0, 0, 0, 0, 0, 0).find(1), -1);
    }
}

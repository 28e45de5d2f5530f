/** The boundary cases of the rules 1 to 8 and of taking a row: promises 12 and 13. */
public final class EdgesOfRulesTest {
    private static final long FAR = House.FAR;
    private static final long LEAST = Long.MIN_VALUE;
    private static final long MOST = Long.MAX_VALUE;

    private static final Check CHECK = new Check();

    public static void main(String[] args) {
        rulesOneAndTwo();
        quorums();
        versionsAndLives();
        whatIsTold();
        CHECK.edge("12", "the first that doesn't hold, of a row of ROOT", EdgesOfRulesTest::firstBrokenOfRoot);
        CHECK.edge("12", "the first that doesn't hold, of SNAPSHOT", EdgesOfRulesTest::firstBrokenOfSnapshot);
        CHECK.edge("12", "the first that doesn't hold, of TARGETS", EdgesOfRulesTest::firstBrokenOfTargets);
        CHECK.edge("12", "verify takes nothing", EdgesOfRulesTest::verifyChangesNothing);
        taking();
        CHECK.end();
    }

    private static void rulesOneAndTwo() {
        CHECK.edge("rule 1", "there is such a ROW", EdgesOfRulesTest::noSuchRow);
        CHECK.edge("rule 2", "ROOT has a CURRENT ROW", EdgesOfRulesTest::noRootYet);
        CHECK.edge("rule 2", "that is ALIVE: its UNTIL is above t", EdgesOfRulesTest::rootAtItsUntil);
        CHECK.edge("rule 2", "it is of ROOT", EdgesOfRulesTest::rootNeedsNoLivingRoot);
    }

    private static void quorums() {
        CHECK.edge("rule 3", "at least as many", EdgesOfRulesTest::oneLessAsManyOneMore);
        CHECK.edge("rule 3", "QUORUM 9, and QUORUM 1", EdgesOfRulesTest::quorumNine);
        CHECK.edge("rule 3", "more than there are in the set", EdgesOfRulesTest::quorumAboveTheSet);
        CHECK.edge("rule 3", "a set of none", EdgesOfRulesTest::quorumOfEmptySet);
        CHECK.edge("rule 3", "different KEYS: twice the same", EdgesOfRulesTest::twiceTheSame);
        CHECK.edge("rule 3", "are in its set for the ROLE", EdgesOfRulesTest::setOfAnotherRole);
        CHECK.edge("rule 3", "LIVE at t", EdgesOfRulesTest::keyAtItsUntil);
        CHECK.edge("rule 3", "LIVE: it is not REVOKED", EdgesOfRulesTest::oneOfTwoIsRevoked);
        CHECK.edge("rule 3", "by the CURRENT ROOT row, not by the DRAFT", EdgesOfRulesTest::draftSaysNothing);
        CHECK.edge("rule 3", "by the CURRENT ROOT row, not by an older one", EdgesOfRulesTest::olderRootSaysNothing);
        CHECK.edge("rule 3", "ALIVE or not", EdgesOfRulesTest::deadRootSaysStill);
        CHECK.edge("rule 3", "not asked for a row of ROOT when there is none", EdgesOfRulesTest::firstRoot);
        CHECK.edge("rule 4", "the QUORUM of ROOT by itself", EdgesOfRulesTest::rootByItself);
        CHECK.edge("rule 4", "by itself, where it asks for more", EdgesOfRulesTest::rootAsksForMore);
        CHECK.edge("rule 4", "a row of ROOT alone", EdgesOfRulesTest::othersAreNotAskedByThemselves);
    }

    private static void versionsAndLives() {
        CHECK.edge("rule 5", "without one: any", EdgesOfRulesTest::anyFirstVersion);
        CHECK.edge("rule 5", "of ROOT the CURRENT one's and 1", EdgesOfRulesTest::rootVersionAndOne);
        CHECK.edge("rule 5", "of ROOT, behind the greatest VERSION", EdgesOfRulesTest::noRootBehindTheLast);
        CHECK.edge("rule 5", "of others not below the CURRENT one's", EdgesOfRulesTest::otherVersions);
        CHECK.edge("rule 5", "of others, if there is one", EdgesOfRulesTest::versionsOfRolesAreApart);
        CHECK.edge("rule 6", "ALIVE: its UNTIL is above t", EdgesOfRulesTest::rowAtItsUntil);
        CHECK.edge("rule 6", "the least and the greatest t", EdgesOfRulesTest::rowAtBothEnds);
    }

    private static void whatIsTold() {
        CHECK.edge("rule 7", "of SNAPSHOT: TIME has a CURRENT ROW", EdgesOfRulesTest::snapshotWithoutTime);
        CHECK.edge("rule 7", "of SNAPSHOT: that is ALIVE", EdgesOfRulesTest::snapshotByDeadTime);
        CHECK.edge("rule 7", "of SNAPSHOT: TELLS just this VERSION", EdgesOfRulesTest::snapshotOfJustThisVersion);
        CHECK.edge("rule 7", "of 3 to 9: SNAPSHOT has a CURRENT ROW", EdgesOfRulesTest::pathsWithoutSnapshot);
        CHECK.edge("rule 7", "of 3 to 9: that is ALIVE", EdgesOfRulesTest::pathsByDeadSnapshot);
        CHECK.edge("rule 7", "of 3 to 9: TELLS just this VERSION of the ROLE", EdgesOfRulesTest::pathsOfJustThisVersion);
        CHECK.edge("rule 7", "of ROOT and TIME nothing", EdgesOfRulesTest::rootAndTimeNeedNoTeller);
        CHECK.edge("rule 8", "if there is a CURRENT one", EdgesOfRulesTest::firstSnapshotTellsWhatItWants);
        CHECK.edge("rule 8", "a CURRENT one that TELLS nothing", EdgesOfRulesTest::nothingToldBefore);
        CHECK.edge("rule 8", "whatever ROLE that TELLS is TOLD here", EdgesOfRulesTest::everyRoleIsToldAgain);
        CHECK.edge("rule 8", "with no lesser VERSION", EdgesOfRulesTest::noLesserVersion);
        CHECK.edge("rule 8", "more than that TELLS", EdgesOfRulesTest::moreIsTold);
        CHECK.edge("rule 8", "of SNAPSHOT alone", EdgesOfRulesTest::timeMayTellLess);
        CHECK.edge("rule 8", "the CURRENT one itself", EdgesOfRulesTest::snapshotAgain);
    }

    private static void taking() {
        CHECK.edge("13", "Likewise, minus the first that doesn't hold: nothing changes",
            EdgesOfRulesTest::refusedUpdateChangesNothing);
        CHECK.edge("13", "there is no such ROW", EdgesOfRulesTest::updateNoRow);
        CHECK.edge("13", "becomes the CURRENT ROW of its ROLE (the others stay)", EdgesOfRulesTest::othersStay);
        CHECK.edge("13", "the CURRENT ROW again", EdgesOfRulesTest::updateAgain);
        CHECK.edge("13", "never goes back", EdgesOfRulesTest::neverBack);
        CHECK.edge("13", "another t", EdgesOfRulesTest::timeIsNotKept);
    }

    private static int verified(SignQuorum x, int role, int version, long until, long t) {
        return x.verify(House.signed(x, role, version, until), t);
    }

    private static void noSuchRow() {
        SignQuorum x = House.withRoot(CHECK);
        CHECK.same("verify(1, 0), where there is one row", x.verify(1, 0), -1);
        CHECK.same("verify(23, 0), where there is one row", x.verify(23, 0), -1);
        for (int row : House.NEVER_NUMBERS) {
            CHECK.same("verify(" + row + ", 0)", x.verify(row, 0), -1);
            CHECK.same("verify(" + row + ", 0) of a new object", new SignQuorum().verify(row, 0), -1);
        }
    }

    private static void noRootYet() {
        SignQuorum x = new SignQuorum();
        x.key(1, FAR);
        House.holdAll(x, 0);
        House.signed(x, 0, 1, FAR);
        for (int role = 1; role <= 9; role++) {
            int row = House.signed(x, role, 1, FAR);
            CHECK.same("verify of role " + role, x.verify(row, 0), -2);
            CHECK.same("update of role " + role, x.update(row, 0), -2);
        }
    }

    private static void rootAtItsUntil() {
        SignQuorum x = houseUntil(50);
        for (int role = 1; role <= 9; role++) {
            int row = House.signed(x, role, 1, FAR);
            int due = role == 1 ? 1 : -7;
            CHECK.same("role " + role + ", one below the root's until", x.verify(row, 49), due);
            CHECK.same("role " + role + ", at the root's until", x.verify(row, 50), -2);
            CHECK.same("role " + role + ", one above it", x.verify(row, 51), -2);
        }
        CHECK.same("a root until the greatest, one below", verified(houseUntil(MOST), 1, 1, MOST, MOST - 1), 1);
        CHECK.same("a root until the greatest, at it", verified(houseUntil(MOST), 1, 1, MOST, MOST), -2);
    }

    /** Key 0, which lives longest, alone is in each role's set; row 0 is the root, and current. */
    private static SignQuorum houseUntil(long rootUntil) {
        SignQuorum x = new SignQuorum();
        x.key(1, MOST);
        House.holdAll(x, 0);
        House.take(CHECK, x, x.row(0, 1, rootUntil));
        return x;
    }

    private static void rootNeedsNoLivingRoot() {
        SignQuorum x = houseUntil(50);
        CHECK.same("the next root at the until of the last", verified(x, 0, 2, FAR, 50), 1);
        CHECK.same("the next root far behind it", verified(x, 0, 2, FAR, 900), 1);
    }

    /** Keys 0 .. 3 are there, of which 1 .. 3 are in the set of TIME, and two of them are needed. */
    private static SignQuorum twoOfThree() {
        SignQuorum x = new SignQuorum();
        House.addKeys(x, 4);
        x.holds(0, 0, true);
        for (int k = 1; k <= 3; k++) {
            x.holds(1, k, true);
        }
        x.quorum(1, 2);
        House.take(CHECK, x, x.row(0, 1, FAR));
        return x;
    }

    private static void oneLessAsManyOneMore() {
        SignQuorum x = twoOfThree();
        int row = x.row(1, 1, FAR);
        CHECK.same("none of two", x.verify(row, 0), -3);
        x.sign(row, 1);
        CHECK.same("one of two", x.verify(row, 0), -3);
        x.sign(row, 3);
        CHECK.same("two of two", x.verify(row, 0), 1);
        x.sign(row, 2);
        CHECK.same("three where two are needed", x.verify(row, 0), 1);
    }

    private static void quorumNine() {
        SignQuorum x = new SignQuorum();
        House.addKeys(x, 20);
        x.holds(0, 0, true);
        for (int k = 11; k < 20; k++) {
            x.holds(1, k, true);
        }
        x.holds(2, 19, true);
        x.quorum(1, 9);
        House.take(CHECK, x, x.row(0, 1, FAR));
        int time = x.row(1, 1, FAR);
        for (int k = 11; k < 20; k++) {
            CHECK.same("before key " + k + " signs", x.verify(time, 0), -3);
            x.sign(time, k);
        }
        CHECK.same("nine of nine", x.verify(time, 0), 1);
        int snapshot = x.row(2, 1, FAR);
        CHECK.same("none of one", x.verify(snapshot, 0), -3);
        x.sign(snapshot, 19);
        CHECK.same("one of one, the last key", x.verify(snapshot, 0), -7);
    }

    private static void quorumAboveTheSet() {
        SignQuorum x = new SignQuorum();
        House.addKeys(x, 2);
        x.holds(0, 0, true);
        x.holds(0, 1, true);
        x.quorum(0, 3);
        x.row(0, 1, FAR);
        for (int i = 0; i < 12; i++) {
            x.sign(0, i % 2);
        }
        CHECK.same("two keys, six times each, where three are needed", x.verify(0, 0), -4);
    }

    private static void quorumOfEmptySet() {
        SignQuorum x = new SignQuorum();
        x.key(1, FAR);
        House.signed(x, 0, 1, FAR);
        CHECK.same("a root that names no key", x.verify(0, 0), -4);
        x.holds(0, 0, true);
        House.take(CHECK, x, x.row(0, 1, FAR));
        CHECK.same("a time row, where the root names no key for it", verified(x, 1, 1, FAR, 0), -3);
    }

    private static void twiceTheSame() {
        SignQuorum x = twoOfThree();
        int row = x.row(1, 1, FAR);
        for (int i = 0; i < 11; i++) {
            x.sign(row, 1);
        }
        CHECK.same("eleven of one key", x.verify(row, 0), -3);
        x.sign(row, 2);
        CHECK.same("and the twelfth of another", x.verify(row, 0), 1);
    }

    private static void setOfAnotherRole() {
        SignQuorum x = twoOfThree();
        int row = x.row(1, 1, FAR);
        x.sign(row, 1);
        x.sign(row, 0);
        CHECK.same("one of TIME's, and one of ROOT's", x.verify(row, 0), -3);
        int snapshot = x.row(2, 1, FAR);
        for (int k = 0; k <= 3; k++) {
            x.sign(snapshot, k);
        }
        CHECK.same("all keys, none of SNAPSHOT's", x.verify(snapshot, 0), -3);
    }

    private static void keyAtItsUntil() {
        SignQuorum x = new SignQuorum();
        x.key(1, MOST);
        x.key(2, 30);
        x.key(3, 40);
        x.holds(0, 0, true);
        x.holds(1, 1, true);
        x.holds(1, 2, true);
        x.quorum(1, 2);
        House.take(CHECK, x, x.row(0, 1, FAR));
        int row = x.row(1, 1, FAR);
        x.sign(row, 1);
        x.sign(row, 2);
        CHECK.same("one below the first until", x.verify(row, 29), 1);
        CHECK.same("at the first until", x.verify(row, 30), -3);
        CHECK.same("at the second until", x.verify(row, 40), -3);
        CHECK.same("at the least t", x.verify(row, LEAST), 1);
    }

    private static void oneOfTwoIsRevoked() {
        SignQuorum x = twoOfThree();
        int row = x.row(1, 1, FAR);
        x.sign(row, 1);
        x.sign(row, 2);
        x.revoke(0);
        x.revoke(3);
        CHECK.same("others are revoked", x.verify(row, 0), 1);
        x.revoke(2);
        CHECK.same("one of two is revoked", x.verify(row, 0), -3);
    }

    private static void draftSaysNothing() {
        SignQuorum x = twoOfThree();
        x.holds(1, 0, true);
        x.quorum(1, 1);
        x.holds(1, 1, false);
        int row = x.row(1, 1, FAR);
        x.sign(row, 0);
        x.sign(row, 1);
        CHECK.same("one of two, and one of the draft's", x.verify(row, 0), -3);
        x.sign(row, 2);
        CHECK.same("two, of whom the draft has one no more", x.verify(row, 0), 1);
        int next = House.signed(x, 0, 2, FAR);
        CHECK.same("verify of the next root", x.verify(next, 0), 1);
        int other = x.row(1, 1, FAR);
        x.sign(other, 0);
        CHECK.same("the next root isn't current by that", x.verify(other, 0), -3);
    }

    private static void olderRootSaysNothing() {
        SignQuorum x = new SignQuorum();
        House.addKeys(x, 2);
        House.holdAll(x, 0);
        House.take(CHECK, x, x.row(0, 1, FAR));
        int time = House.signed(x, 1, 1, FAR);
        CHECK.same("by the first root", x.verify(time, 0), 1);
        for (int role = 0; role <= 9; role++) {
            x.holds(role, 0, false);
            x.holds(role, 1, true);
        }
        int next = x.row(0, 2, FAR);
        x.sign(next, 0);
        x.sign(next, 1);
        CHECK.same("update of the next root", x.update(next, 0), 1);
        CHECK.same("by keys of the first alone", x.verify(time, 0), -3);
        CHECK.same("a root by keys of the first alone", verified(x, 0, 3, FAR, 0), -3);
        x.sign(time, 1);
        CHECK.same("by keys of the current one", x.verify(time, 0), 1);
    }

    private static void deadRootSaysStill() {
        SignQuorum x = new SignQuorum();
        House.addKeys(x, 2);
        x.holds(0, 0, true);
        House.take(CHECK, x, x.row(0, 1, 50));
        x.holds(0, 0, false);
        x.holds(0, 1, true);
        int next = x.row(0, 2, FAR);
        x.sign(next, 1);
        CHECK.same("by itself alone, the current one not alive", x.verify(next, 60), -3);
        x.sign(next, 0);
        CHECK.same("by both", x.verify(next, 60), 1);
    }

    private static void firstRoot() {
        SignQuorum x = new SignQuorum();
        House.addKeys(x, 2);
        x.holds(0, 1, true);
        x.row(0, 1, FAR);
        x.sign(0, 0);
        CHECK.same("the first root is asked for rule 4, not 3", x.verify(0, 0), -4);
        x.sign(0, 1);
        CHECK.same("the first root by itself", x.verify(0, 0), 1);
    }

    private static void rootByItself() {
        SignQuorum x = new SignQuorum();
        House.addKeys(x, 2);
        x.holds(0, 0, true);
        House.take(CHECK, x, x.row(0, 1, FAR));
        x.holds(0, 0, false);
        x.holds(0, 1, true);
        int next = x.row(0, 2, FAR);
        CHECK.same("no signature", x.verify(next, 0), -3);
        x.sign(next, 0);
        CHECK.same("by the current one alone", x.verify(next, 0), -4);
        x.sign(next, 1);
        CHECK.same("by both", x.verify(next, 0), 1);
        x.revoke(1);
        CHECK.same("its own key is revoked", x.verify(next, 0), -4);
    }

    private static void rootAsksForMore() {
        SignQuorum x = new SignQuorum();
        House.addKeys(x, 2);
        x.holds(0, 0, true);
        x.holds(0, 1, true);
        House.take(CHECK, x, x.row(0, 1, FAR));
        x.quorum(0, 2);
        int next = House.signed(x, 0, 2, FAR);
        CHECK.same("one, as the current one asks", x.verify(next, 0), -4);
        x.sign(next, 1);
        CHECK.same("two, as itself asks", x.update(next, 0), 1);
        x.quorum(0, 1);
        int third = House.signed(x, 0, 3, FAR);
        CHECK.same("one, as itself asks", x.verify(third, 0), -3);
    }

    private static void othersAreNotAskedByThemselves() {
        SignQuorum x = House.withRoot(CHECK);
        House.addKeys(x, 2);
        x.holds(1, 0, false);
        x.quorum(0, 9);
        CHECK.same("a time row, though the draft has no key for it", verified(x, 1, 1, FAR, 0), 1);
    }

    private static void anyFirstVersion() {
        for (int version : new int[] {1, 2, 999999, 1000000}) {
            SignQuorum x = new SignQuorum();
            x.key(1, FAR);
            House.holdAll(x, 0);
            CHECK.same("the first root, version " + version, verified(x, 0, version, FAR, 0), 1);
            SignQuorum y = House.withRoot(CHECK);
            CHECK.same("the first time row, version " + version, verified(y, 1, version, FAR, 0), 1);
        }
    }

    private static void rootVersionAndOne() {
        SignQuorum x = new SignQuorum();
        x.key(1, FAR);
        House.holdAll(x, 0);
        House.take(CHECK, x, x.row(0, 5, FAR));
        int[] others = {1, 4, 5, 7, 10, 999999, 1000000};
        for (int version : others) {
            CHECK.same("a root of version " + version + " behind 5", verified(x, 0, version, FAR, 0), -5);
        }
        CHECK.same("the current root itself", x.verify(0, 0), -5);
        CHECK.same("a root of version 6 behind 5", verified(x, 0, 6, FAR, 0), 1);
    }

    private static void noRootBehindTheLast() {
        SignQuorum x = new SignQuorum();
        x.key(1, FAR);
        House.holdAll(x, 0);
        House.take(CHECK, x, x.row(0, 999999, FAR));
        House.take(CHECK, x, x.row(0, 1000000, FAR));
        CHECK.same("there is no row of version 1000001", x.row(0, 1000001, FAR), -1);
        CHECK.same("version 1 behind the last", verified(x, 0, 1, FAR, 0), -5);
        CHECK.same("the last again", verified(x, 0, 1000000, FAR, 0), -5);
        CHECK.same("version(0)", x.version(0), 1000000);
    }

    private static void otherVersions() {
        SignQuorum x = House.withRoot(CHECK);
        House.take(CHECK, x, x.row(1, 5, FAR));
        CHECK.same("version 4 behind 5", verified(x, 1, 4, FAR, 0), -5);
        CHECK.same("version 1 behind 5", verified(x, 1, 1, FAR, 0), -5);
        CHECK.same("version 5 behind 5", verified(x, 1, 5, FAR, 0), 1);
        CHECK.same("version 6 behind 5", verified(x, 1, 6, FAR, 0), 1);
        House.take(CHECK, x, x.row(1, 1000000, FAR));
        CHECK.same("the greatest behind the greatest", verified(x, 1, 1000000, FAR, 0), 1);
        CHECK.same("one less behind the greatest", verified(x, 1, 999999, FAR, 0), -5);
    }

    private static void versionsOfRolesAreApart() {
        SignQuorum x = House.withRoot(CHECK);
        House.take(CHECK, x, x.row(0, 2, FAR));
        int time = x.row(1, 1000000, FAR);
        x.tells(time, 2, 1);
        House.take(CHECK, x, time);
        CHECK.same("a snapshot of version 1, time being far above", verified(x, 2, 1, FAR, 0), 1);
        CHECK.same("a root of version 3", verified(x, 0, 3, FAR, 0), 1);
    }

    private static void rowAtItsUntil() {
        SignQuorum x = House.withSnapshot(CHECK);
        int[] versions = {2, 1, 1, 1, 1};
        for (int role = 0; role <= 4; role++) {
            int row = x.row(role, versions[role], 50);
            for (int other = 3; other <= 9 && role == 2; other++) {
                x.tells(row, other, 1);
            }
            x.sign(row, 0);
            CHECK.same("role " + role + ", one below its until", x.verify(row, 49), 1);
            CHECK.same("role " + role + ", at its until", x.verify(row, 50), -6);
            CHECK.same("role " + role + ", one above its until", x.verify(row, 51), -6);
        }
    }

    private static void rowAtBothEnds() {
        SignQuorum x = houseUntil(MOST);
        CHECK.same("until the least, at it", verified(x, 1, 1, LEAST, LEAST), -6);
        CHECK.same("until one more, at the least", verified(x, 1, 1, LEAST + 1, LEAST), 1);
        CHECK.same("until the greatest, one below it", verified(x, 1, 1, MOST, MOST - 1), 1);
        CHECK.same("until the greatest, at the least", verified(x, 1, 1, MOST, LEAST), 1);
        CHECK.same("until the least, one below the greatest", verified(x, 1, 1, LEAST, MOST - 1), -6);
        CHECK.same("until 0, at -1", verified(x, 1, 1, 0, -1), 1);
        CHECK.same("until 0, at 0", verified(x, 1, 1, 0, 0), -6);
    }

    private static void takeTime(SignQuorum x, int version, long until, int told) {
        int time = x.row(1, version, until);
        x.tells(time, 2, told);
        House.take(CHECK, x, time);
    }

    private static void snapshotWithoutTime() {
        SignQuorum x = House.withRoot(CHECK);
        int snapshot = House.signed(x, 2, 1, FAR);
        CHECK.same("no time row", x.verify(snapshot, 0), -7);
        int time = x.row(1, 1, FAR);
        x.tells(time, 2, 1);
        x.sign(time, 0);
        CHECK.same("a time row that isn't current", x.verify(snapshot, 0), -7);
        x.update(time, 0);
        CHECK.same("a time row that is", x.verify(snapshot, 0), 1);
    }

    private static void snapshotByDeadTime() {
        SignQuorum x = House.withRoot(CHECK);
        takeTime(x, 1, 50, 1);
        int snapshot = House.signed(x, 2, 1, FAR);
        CHECK.same("one below the time row's until", x.verify(snapshot, 49), 1);
        CHECK.same("at the time row's until", x.verify(snapshot, 50), -7);
        CHECK.same("one above it", x.verify(snapshot, 51), -7);
    }

    private static void snapshotOfJustThisVersion() {
        SignQuorum x = House.withRoot(CHECK);
        House.take(CHECK, x, x.row(1, 1, FAR));
        CHECK.same("a time row that tells nothing", verified(x, 2, 1, FAR, 0), -7);
        takeTime(x, 1, FAR, 5);
        CHECK.same("one below", verified(x, 2, 4, FAR, 0), -7);
        CHECK.same("just this", verified(x, 2, 5, FAR, 0), 1);
        CHECK.same("one above", verified(x, 2, 6, FAR, 0), -7);
        takeTime(x, 2, FAR, 1000000);
        CHECK.same("the one before", verified(x, 2, 5, FAR, 0), -7);
        CHECK.same("the greatest", verified(x, 2, 1000000, FAR, 0), 1);
    }

    private static void pathsWithoutSnapshot() {
        for (int role = 3; role <= 9; role++) {
            SignQuorum x = House.withRoot(CHECK);
            takeTime(x, 1, FAR, 1);
            int row = House.signed(x, role, 1, FAR);
            CHECK.same("role " + role + ", no snapshot", x.verify(row, 0), -7);
            int snapshot = x.row(2, 1, FAR);
            x.tells(snapshot, role, 1);
            x.sign(snapshot, 0);
            CHECK.same("role " + role + ", a snapshot that isn't current", x.verify(row, 0), -7);
            x.update(snapshot, 0);
            CHECK.same("role " + role + ", a snapshot that is", x.verify(row, 0), 1);
        }
    }

    private static void pathsByDeadSnapshot() {
        SignQuorum x = House.withRoot(CHECK);
        takeTime(x, 1, 20, 1);
        takeSnapshot(x, 1, 50, new int[] {3, 9}, new int[] {1, 1});
        for (int role : new int[] {3, 9}) {
            int row = House.signed(x, role, 1, FAR);
            CHECK.same("at the time row's until", x.verify(row, 20), 1);
            CHECK.same("one below the snapshot's until", x.verify(row, 49), 1);
            CHECK.same("at the snapshot's until", x.verify(row, 50), -7);
            CHECK.same("one above it", x.verify(row, 51), -7);
        }
    }

    private static int snapshot(SignQuorum x, int version, long until, int[] roles, int[] versions) {
        int row = x.row(2, version, until);
        for (int i = 0; i < roles.length; i++) {
            x.tells(row, roles[i], versions[i]);
        }
        x.sign(row, 0);
        return row;
    }

    private static void takeSnapshot(SignQuorum x, int version, long until, int[] roles, int[] versions) {
        CHECK.same("update of a snapshot", x.update(snapshot(x, version, until, roles, versions), 0), 1);
    }

    private static void pathsOfJustThisVersion() {
        SignQuorum x = House.withRoot(CHECK);
        takeTime(x, 1, FAR, 1);
        takeSnapshot(x, 1, FAR, new int[] {3, 4, 9}, new int[] {5, 1, 1000000});
        CHECK.same("TARGETS, one below", verified(x, 3, 4, FAR, 0), -7);
        CHECK.same("TARGETS, just this", verified(x, 3, 5, FAR, 0), 1);
        CHECK.same("TARGETS, one above", verified(x, 3, 6, FAR, 0), -7);
        CHECK.same("role 4, just this", verified(x, 4, 1, FAR, 0), 1);
        CHECK.same("role 4, what is told of TARGETS", verified(x, 4, 5, FAR, 0), -7);
        CHECK.same("role 9, the greatest", verified(x, 9, 1000000, FAR, 0), 1);
        CHECK.same("role 9, one below", verified(x, 9, 999999, FAR, 0), -7);
        for (int role = 5; role <= 8; role++) {
            CHECK.same("role " + role + ", which isn't told", verified(x, role, 1, FAR, 0), -7);
        }
    }

    private static void rootAndTimeNeedNoTeller() {
        SignQuorum x = House.withRoot(CHECK);
        CHECK.same("a time row without a snapshot", verified(x, 1, 3, FAR, 0), 1);
        CHECK.same("a root without either", verified(x, 0, 2, FAR, 0), 1);
    }

    private static void firstSnapshotTellsWhatItWants() {
        SignQuorum x = House.withRoot(CHECK);
        takeTime(x, 1, FAR, 1);
        CHECK.same("nothing", x.verify(snapshot(x, 1, FAR, new int[] {}, new int[] {}), 0), 1);
        CHECK.same("one", x.verify(snapshot(x, 1, FAR, new int[] {9}, new int[] {1000000}), 0), 1);
    }

    private static void nothingToldBefore() {
        SignQuorum x = House.withRoot(CHECK);
        takeTime(x, 1, FAR, 1);
        takeSnapshot(x, 1, FAR, new int[] {}, new int[] {});
        CHECK.same("nothing again", x.verify(snapshot(x, 1, FAR, new int[] {}, new int[] {}), 0), 1);
        CHECK.same("one", x.verify(snapshot(x, 1, FAR, new int[] {3}, new int[] {1}), 0), 1);
    }

    private static void everyRoleIsToldAgain() {
        int[] all = {3, 4, 5, 6, 7, 8, 9};
        int[] ones = {1, 1, 1, 1, 1, 1, 1};
        SignQuorum x = House.withSnapshot(CHECK);
        CHECK.same("all seven", x.verify(snapshot(x, 1, FAR, all, ones), 0), 1);
        for (int left = 0; left < 7; left++) {
            int[] six = new int[6];
            System.arraycopy(all, 0, six, 0, left);
            System.arraycopy(all, left + 1, six, left, 6 - left);
            CHECK.same("all but " + all[left], x.verify(snapshot(x, 1, FAR, six, ones), 0), -8);
        }
        CHECK.same("none", x.verify(snapshot(x, 1, FAR, new int[] {}, ones), 0), -8);
        CHECK.same("all, in another order", x.verify(snapshot(x, 1, FAR, new int[] {9, 8, 7, 6, 5, 4, 3}, ones), 0), 1);
    }

    private static void noLesserVersion() {
        SignQuorum x = House.withRoot(CHECK);
        takeTime(x, 1, FAR, 1);
        int[] roles = {9, 3};
        takeSnapshot(x, 1, FAR, roles, new int[] {5, 1000000});
        CHECK.same("the same", x.verify(snapshot(x, 1, FAR, roles, new int[] {5, 1000000}), 0), 1);
        CHECK.same("one more", x.verify(snapshot(x, 1, FAR, roles, new int[] {6, 1000000}), 0), 1);
        CHECK.same("the first less by one", x.verify(snapshot(x, 1, FAR, roles, new int[] {4, 1000000}), 0), -8);
        CHECK.same("the second less by one", x.verify(snapshot(x, 1, FAR, roles, new int[] {5, 999999}), 0), -8);
        CHECK.same("one more doesn't outweigh one less",
            x.verify(snapshot(x, 1, FAR, roles, new int[] {1000000, 1}), 0), -8);
        takeTime(x, 1, FAR, 2);
        CHECK.same("a lesser one in a higher snapshot",
            x.verify(snapshot(x, 2, FAR, roles, new int[] {4, 1000000}), 0), -8);
    }

    private static void moreIsTold() {
        SignQuorum x = House.withRoot(CHECK);
        takeTime(x, 1, FAR, 1);
        takeSnapshot(x, 1, FAR, new int[] {5}, new int[] {2});
        CHECK.same("one role more before it", x.verify(snapshot(x, 1, FAR, new int[] {3, 5}, new int[] {1, 2}), 0), 1);
        CHECK.same("one role more behind it", x.verify(snapshot(x, 1, FAR, new int[] {5, 9}, new int[] {2, 1}), 0), 1);
        CHECK.same("others in its place", x.verify(snapshot(x, 1, FAR, new int[] {3, 9}, new int[] {2, 2}), 0), -8);
    }

    private static void timeMayTellLess() {
        SignQuorum x = House.withRoot(CHECK);
        takeTime(x, 1, FAR, 5);
        takeTime(x, 1, FAR, 4);
        CHECK.same("a time row that tells nothing", verified(x, 1, 1, FAR, 0), 1);
        CHECK.same("the snapshot that is told now", verified(x, 2, 4, FAR, 0), 1);
    }

    private static void snapshotAgain() {
        SignQuorum x = House.withSnapshot(CHECK);
        CHECK.same("verify of the current snapshot", x.verify(2, 0), 1);
        CHECK.same("update of the current snapshot", x.update(2, 0), 1);
        CHECK.same("current(2)", x.current(2), 2);
    }

    private static void firstBrokenOfRoot() {
        SignQuorum x = houseUntil(50);
        x.holds(0, 0, false);
        int all = x.row(0, 9, 5);
        CHECK.same("3 before 4, 5 and 6", x.verify(all, 60), -3);
        x.sign(all, 0);
        CHECK.same("4 before 5 and 6", x.verify(all, 60), -4);
        x.holds(0, 0, true);
        CHECK.same("5 before 6", verified(x, 0, 9, 5, 60), -5);
        CHECK.same("6 alone", verified(x, 0, 2, 5, 60), -6);
        CHECK.same("none", verified(x, 0, 2, 61, 60), 1);
    }

    private static void firstBrokenOfSnapshot() {
        SignQuorum x = House.withRoot(CHECK);
        takeTime(x, 1, FAR, 2);
        takeSnapshot(x, 2, FAR, new int[] {3}, new int[] {2});
        int all = x.row(2, 1, 5);
        CHECK.same("2 before 3, 5, 6, 7 and 8", x.verify(all, FAR), -2);
        CHECK.same("3 before 5, 6, 7 and 8", x.verify(all, 60), -3);
        x.sign(all, 0);
        CHECK.same("5 before 6, 7 and 8", x.verify(all, 60), -5);
        int dead = House.signed(x, 2, 3, 5);
        CHECK.same("6 before 7 and 8", x.verify(dead, 60), -6);
        CHECK.same("7 before 8", x.verify(dead, 4), -7);
        CHECK.same("8 alone", verified(x, 2, 2, 5, 4), -8);
        CHECK.same("none", x.verify(snapshot(x, 2, 5, new int[] {3}, new int[] {2}), 4), 1);
    }

    private static void firstBrokenOfTargets() {
        SignQuorum x = House.withRoot(CHECK);
        takeTime(x, 1, FAR, 1);
        takeSnapshot(x, 1, FAR, new int[] {3}, new int[] {2});
        House.take(CHECK, x, x.row(3, 2, FAR));
        int all = x.row(3, 1, 5);
        CHECK.same("2 before 3, 5, 6 and 7", x.verify(all, FAR), -2);
        CHECK.same("3 before 5, 6 and 7", x.verify(all, 60), -3);
        x.sign(all, 0);
        CHECK.same("5 before 6 and 7", x.verify(all, 60), -5);
        int dead = House.signed(x, 3, 3, 5);
        CHECK.same("6 before 7", x.verify(dead, 60), -6);
        CHECK.same("7 alone", x.verify(dead, 4), -7);
        CHECK.same("none", verified(x, 3, 2, 5, 4), 1);
    }

    private static void verifyChangesNothing() {
        Twins.stayAlike(CHECK, EdgesOfRulesTest::rowsOfAllKinds, x -> {
            for (int row = -1; row <= 8; row++) {
                x.verify(row, 0);
                x.verify(row, MOST);
            }
            CHECK.same("verify of one that could be taken", x.verify(3, 0), 1);
            CHECK.same("current(3)", x.current(3), -1);
        });
    }

    /** Rows 0 .. 2 are current; row 3 could be; each of 4 .. 8 breaks a rule, 7, 3, 5, 8 and 5 in turn. */
    private static void rowsOfAllKinds(SignQuorum x) {
        x.key(11, FAR);
        House.holdAll(x, 0);
        House.take(CHECK, x, x.row(0, 2, FAR));
        takeTime(x, 2, FAR, 1);
        takeSnapshot(x, 1, FAR, new int[] {3}, new int[] {1});
        House.signed(x, 3, 1, FAR);
        House.signed(x, 4, 1, FAR);
        x.row(1, 2, FAR);
        House.signed(x, 1, 1, FAR);
        House.signed(x, 2, 1, FAR);
        House.signed(x, 0, 2, FAR);
    }

    private static void refusedUpdateChangesNothing() {
        Twins.stayAlike(CHECK, EdgesOfRulesTest::rowsOfAllKinds, x -> {
            CHECK.same("update of no row", x.update(9, 0), -1);
            CHECK.same("update where the root is dead", x.update(3, FAR), -2);
            CHECK.same("update without a signature", x.update(5, 0), -3);
            CHECK.same("update of the same root", x.update(8, 0), -5);
            CHECK.same("update of a lower version", x.update(6, 0), -5);
            CHECK.same("update of what isn't told", x.update(4, 0), -7);
            CHECK.same("update of a snapshot that tells less", x.update(7, 0), -8);
        });
        Twins.stayAlike(CHECK, EdgesOfRulesTest::twoRoots, x -> {
            CHECK.same("update of a root that has no quorum by itself", x.update(1, 0), -4);
            CHECK.same("update of a root at its until", x.update(2, 5), -6);
        });
    }

    private static void twoRoots(SignQuorum x) {
        x.key(11, FAR);
        x.holds(0, 0, true);
        House.take(CHECK, x, x.row(0, 1, FAR));
        x.quorum(0, 2);
        House.signed(x, 0, 2, FAR);
        x.quorum(0, 1);
        House.signed(x, 0, 2, 5);
    }

    private static void updateNoRow() {
        SignQuorum x = House.withRoot(CHECK);
        CHECK.same("update(1, 0), where there is one row", x.update(1, 0), -1);
        for (int row : House.NEVER_NUMBERS) {
            CHECK.same("update(" + row + ", 0)", x.update(row, 0), -1);
        }
        CHECK.same("current(0)", x.current(0), 0);
    }

    private static void othersStay() {
        SignQuorum x = House.withSnapshot(CHECK);
        for (int role = 3; role <= 9; role++) {
            House.take(CHECK, x, x.row(role, 1, FAR));
        }
        for (int role = 0; role <= 9; role++) {
            x.holds(role, 0, role == 0);
        }
        House.take(CHECK, x, x.row(0, 2, FAR));
        CHECK.same("current(0)", x.current(0), 10);
        for (int role = 1; role <= 9; role++) {
            CHECK.same("current(" + role + ") stays, though this root names no key of it", x.current(role), role);
        }
    }

    private static void updateAgain() {
        SignQuorum x = House.withSnapshot(CHECK);
        CHECK.same("the root again", x.update(0, 0), -5);
        CHECK.same("the time row again", x.update(1, 0), 1);
        CHECK.same("the snapshot again", x.update(2, 0), 1);
        for (int role = 0; role <= 2; role++) {
            CHECK.same("current(" + role + ")", x.current(role), role);
        }
    }

    private static void neverBack() {
        SignQuorum x = House.withRoot(CHECK);
        takeTime(x, 1, FAR, 1);
        takeSnapshot(x, 1, FAR, new int[] {3}, new int[] {1});
        House.take(CHECK, x, x.row(3, 1, FAR));
        takeTime(x, 2, FAR, 2);
        takeSnapshot(x, 2, FAR, new int[] {3}, new int[] {2});
        House.take(CHECK, x, x.row(3, 2, FAR));
        House.take(CHECK, x, x.row(0, 2, FAR));
        for (int row = 0; row <= 3; row++) {
            CHECK.same("update of the older row " + row, x.update(row, 0), -5);
        }
        for (int role = 0; role <= 3; role++) {
            CHECK.same("version(" + role + ")", x.version(role), 2);
        }
    }

    private static void timeIsNotKept() {
        SignQuorum x = House.withRoot(CHECK);
        int late = x.row(1, 1, FAR);
        x.sign(late, 0);
        CHECK.same("update at 900", x.update(late, 900), 1);
        CHECK.same("update at the least t behind it", x.update(House.signed(x, 1, 1, 0), LEAST), 1);
        CHECK.same("a current row isn't let go when it dies", x.version(1), 1);
    }
}

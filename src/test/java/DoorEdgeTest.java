/** The edges of terms 2 and 4 and of promises 8 to 13: a test for each sentence that names one. */
public final class DoorEdgeTest {
    private static final Due due = new Due("DoorEdgeTest");
    private static final int LEAST = Integer.MIN_VALUE;
    private static final int MOST = Integer.MAX_VALUE;
    private static final int DAY = 0;
    private static final int HOUR = 1;
    private static final int CLUB = 2;
    private static final int SCHOOL = 3;
    private static final int SEASON = 4;
    private static final int WATCHER = 5;

    public static void main(String[] args) {
        noSuch();
        reasonsOneByOne();
        reasonsInOrder();
        schools();
        watchers();
        doors();
        owed();
        eyes();
        spans();
        hands();
        counts();
        due.end();
    }

    private static void noSuch() {
        mayIsNoneForNoTicket();
        inIsNoneForNoTicket();
        outIsNoneForWhoIsNotIn();
    }

    private static void reasonsOneByOne() {
        mayIsZeroElse();
        oneIfItIsIn();
        twoIfASeasonWasIn();
        seasonThatWasRefusedWasNotIn();
        twoIfItsClubIsNotThere();
        threeIfThePoolIsShut();
        fourIfMostIsHeadsOrMore();
        fiveIfTheyWouldBeTooMany();
        sixIfThreeCameIn();
        inAnswersMayAndMayChangesNothing();
    }

    private static void reasonsInOrder() {
        oneIsAheadOfTwo();
        oneIsAheadOfThreeAndFour();
        twoIsAheadOfThree();
        threeIsAheadOfFour();
        fourIsAheadOfFive();
        fiveIsAheadOfSix();
    }

    private static void schools() {
        noTeacherNoPupil();
        teachersAreAlwaysEnough();
        pupilsForEachTeacher();
        thirtyPupilsToATeacher();
        teacherWhoWentOutCountsNoMore();
        pupilWhoWentOutCountsNoMore();
        anotherSchoolCountsNot();
    }

    private static void watchers() {
        watcherComesIntoAShutPool();
        watcherComesIntoAFullPool();
        watcherComesNotInTwice();
        watcherComesInWithinTheDoorsLimit();
        watcherGoesOutWithinTheDoorsLimit();
    }

    private static void doors() {
        threeComeInInAMinute();
        threeGoOutInAMinute();
        inAndOutAreCountedApart();
        onesDoorIsNotAnothers();
        doorIsFreeInTheNextMinute();
        whoIsRefusedDoesNotCount();
        handAndEyeLeaveTheDoorsLimit();
        handAndEyeLeaveTheLimitOfGoingOut();
    }

    private static void owed() {
        nothingWithinItsMinutes();
        twentyForEachQuarterBegun();
        hourIsCountedFromWhenItCameIn();
        longestHour();
        clubOwesBehindItsEnd();
        schoolOwesBehindItsEnd();
        dayOwesNothing();
    }

    private static void eyes() {
        eyeNeedsAPool();
        eyeIsSoAlready();
        eyeIsOnAtFirst();
    }

    private static void spans() {
        spanIsZeroAtTheBeginning();
        watchersAreSeen();
        bothAreMoreByWhoCameLessByWhoWent();
        leastIsNotBelowZeroWhileSeen();
        leastIsReckonedByTheMinute();
        leastIsThreeLessWhileOff();
        mostIsThreeMoreWhileOff();
        eachMinuteIsReckoned();
        whatIsSeenInAnOffMinuteDoesNotCount();
        offForNoTime();
        onAgainIsOffInThatMinute();
        offNextMinuteLeavesThisOne();
    }

    private static void hands() {
        handNeedsAPool();
        handMakesBothThatNumber();
        handOfAnEmptyPool();
        handCountsWatchers();
        restOfItsMinuteWithTheEyeOn();
        restOfItsMinuteWithTheEyeOff();
        restOfItsMinuteAfterOff();
        restOfItsMinuteTurnedOn();
        latestHandOfAMinute();
        handIsForItsPool();
    }

    private static void counts() {
        countNeedsAPool();
        countIsNoneForOthers();
        countTellsEach();
    }

    private static BathHouse house(int heads) {
        BathHouse x = new BathHouse();
        x.pool(0, heads, 4, 0);
        return x;
    }

    /** So many DAYs of pool 0, numbered from 0 on. */
    private static BathHouse days(int heads, int days) {
        BathHouse x = house(heads);
        for (int t = 0; t < days; t++) {
            x.ticket(0, DAY, 0, false);
        }
        return x;
    }

    private static void step(BathHouse x, int minutes) {
        for (int left = minutes; left > 0; left -= 240) {
            x.go(Math.min(left, 240));
        }
    }

    private static void comeIn(BathHouse x, int from, int to) {
        for (int t = from; t <= to; t++) {
            due.is(x.in(t), 0);
        }
    }

    private static void span(BathHouse x, int least, int most) {
        due.is(x.count(0, 0), least);
        due.is(x.count(0, 1), most);
    }

    private static final int[] NO_TICKETS = {-1, 1, 2, 199, 200, 201, LEAST, MOST};
    private static final int[] NO_POOLS = {-1, 1, 3, 4, 5, LEAST, MOST};

    private static void mayIsNoneForNoTicket() {
        due.part("8: no such TICKET");
        BathHouse x = days(10, 1);
        for (int t : NO_TICKETS) {
            due.is(x.may(t), -1);
        }
        due.is(x.may(0), 0);
    }

    private static void inIsNoneForNoTicket() {
        due.part("9: no such TICKET");
        BathHouse x = days(10, 1);
        for (int t : NO_TICKETS) {
            due.is(x.in(t), -1);
        }
        due.is(x.all(5), 0);
        due.is(x.in(0), 0);
    }

    private static void outIsNoneForWhoIsNotIn() {
        due.part("10: NONE: it is not in");
        BathHouse x = days(10, 1);
        due.is(x.out(0), -1);
        due.is(x.in(0), 0);
        for (int t : NO_TICKETS) {
            due.is(x.out(t), -1);
        }
        due.is(x.out(0), 0);
        due.is(x.out(0), -1);
        due.is(x.count(0, 2), 0);
        span(x, 0, 0);
    }

    private static void mayIsZeroElse() {
        due.part("8: else 0");
        BathHouse x = house(10);
        x.club(0, 1, 0, 10, 0);
        x.club(0, 2, 0, 10, 1);
        int[] a = {0, 15, 0, 1, 0, 0};
        for (int kind = DAY; kind <= WATCHER; kind++) {
            x.ticket(0, kind, a[kind], true);
            due.is(x.may(kind), 0);
        }
        for (int kind = DAY; kind <= WATCHER; kind++) {
            due.is(x.in(kind), 0);
            x.go(1);
        }
    }

    private static void oneIfItIsIn() {
        due.part("8: 1 it is in");
        BathHouse x = days(10, 1);
        due.is(x.in(0), 0);
        due.is(x.may(0), 1);
        due.is(x.in(0), 1);
        x.go(100);
        due.is(x.in(0), 1);
        due.is(x.told(0, 2), 0);
        due.is(x.told(0, 6), 1);
        x.out(0);
        due.is(x.may(0), 0);
    }

    private static void twoIfASeasonWasIn() {
        due.part("8: 2 a SEASON was in today");
        BathHouse x = house(10);
        x.ticket(0, SEASON, 0, false);
        x.ticket(0, SEASON, 0, false);
        step(x, 100);
        due.is(x.may(0), 0);
        due.is(x.in(0), 0);
        due.is(x.out(0), 0);
        due.is(x.may(0), 2);
        due.is(x.in(0), 2);
        due.is(x.told(0, 6), 1);
        due.is(x.may(1), 0);
        step(x, 1339);
        due.is(x.may(0), 2);
    }

    private static void seasonThatWasRefusedWasNotIn() {
        due.part("SEASON: that may come in once: a refused one did not");
        BathHouse x = house(10);
        x.ticket(0, SEASON, 0, false);
        x.put(0, 1);
        due.is(x.in(0), 3);
        due.is(x.may(0), 3);
        x.go(1);
        due.is(x.in(0), 0);
        due.is(x.in(0), 1);
        x.out(0);
        due.is(x.in(0), 2);
    }

    private static void twoIfItsClubIsNotThere() {
        due.part("8: 2 a CLUB or SCHOOL whose CLUB is not there");
        BathHouse x = house(10);
        x.club(0, 1, 5, 7, 0);
        x.club(0, 2, 5, 7, 1);
        x.ticket(0, CLUB, 0, false);
        x.ticket(0, SCHOOL, 1, true);
        x.ticket(0, SCHOOL, 1, false);
        int[] teacherAndClub = {2, 2, 2, 2, 2, 0, 0, 2, 2};
        int[] pupil = {2, 2, 2, 2, 2, 5, 5, 2, 2};
        for (int minute = 0; minute < 9; minute++) {
            due.is(x.may(0), teacherAndClub[minute]);
            due.is(x.may(1), teacherAndClub[minute]);
            due.is(x.may(2), pupil[minute]);
            x.go(1);
        }
    }

    private static void threeIfThePoolIsShut() {
        due.part("8: 3 the POOL is SHUT");
        BathHouse x = house(10);
        x.club(0, 1, 0, 1440, 0);
        x.club(0, 2, 0, 1440, 1);
        int[] a = {0, 15, 0, 1, 0, 0};
        int[] want = {3, 3, 3, 3, 3, 0};
        for (int kind = DAY; kind <= WATCHER; kind++) {
            x.ticket(0, kind, a[kind], true);
        }
        x.put(0, 1);
        for (int kind = DAY; kind <= WATCHER; kind++) {
            due.is(x.may(kind), want[kind]);
        }
        due.is(x.in(0), 3);
        x.go(1);
        due.is(x.may(0), 0);
        for (int thing = 0; thing < 3; thing++) {
            x.measure(0, thing, 2f);
            due.is(x.may(0), 3);
            x.measure(0, thing, 1f);
            due.is(x.may(0), 0);
        }
        x.go(119);
        due.is(x.may(0), 0);
        x.go(1);
        due.is(x.may(0), 3);
    }

    private static void fourIfMostIsHeadsOrMore() {
        due.part("8: 4 MOST is HEADS or more");
        BathHouse x = days(3, 4);
        comeIn(x, 0, 1);
        due.is(x.may(3), 0);
        due.is(x.in(2), 0);
        due.is(x.may(3), 4);
        x.eye(0, false);
        // 3 to 6: above HEADS.
        x.go(1);
        due.is(x.in(3), 4);
        x.out(0);
        due.is(x.may(3), 4);
        x.eye(0, true);
        x.hand(0);
        due.is(x.may(3), 0);
        due.is(x.in(3), 0);
        due.is(x.may(0), 4);
        BathHouse one = days(1, 2);
        due.is(one.in(0), 0);
        due.is(one.in(1), 4);
    }

    private static void fiveIfTheyWouldBeTooMany() {
        due.part("8: 5 a pupil of a SCHOOL");
        BathHouse x = house(10);
        x.club(0, 1, 0, 10, 1);
        x.ticket(0, SCHOOL, 0, true);
        x.ticket(0, SCHOOL, 0, false);
        x.ticket(0, SCHOOL, 0, false);
        x.ticket(0, DAY, 0, false);
        due.is(x.may(1), 5);
        due.is(x.in(0), 0);
        due.is(x.in(1), 0);
        due.is(x.may(2), 5);
        due.is(x.in(2), 5);
        due.is(x.may(3), 0);
    }

    private static void sixIfThreeCameIn() {
        due.part("8: 6 three came in by that door in this MINUTE");
        BathHouse x = days(10, 4);
        comeIn(x, 0, 1);
        due.is(x.may(3), 0);
        due.is(x.in(2), 0);
        due.is(x.may(3), 6);
        due.is(x.in(3), 6);
        // That one of them went out again makes no room.
        x.out(0);
        due.is(x.may(3), 6);
        due.is(x.may(0), 6);
        x.go(1);
        due.is(x.in(3), 0);
    }

    private static void inAnswersMayAndMayChangesNothing() {
        due.part("8 and 9: MAY's answer");
        BathHouse x = days(10, 5);
        for (int i = 0; i < 5; i++) {
            due.is(x.may(0), 0);
        }
        due.is(x.all(5), 0);
        due.is(x.told(0, 6), 0);
        for (int t = 0; t < 5; t++) {
            int may = x.may(t);
            due.is(may, t < 3 ? 0 : 6);
            due.is(x.in(t), may);
            due.is(x.told(t, 3), may == 0 ? 1 : 0);
            due.is(x.told(t, 6), may == 0 ? 1 : 0);
            due.is(x.told(t, 2), may == 0 ? 0 : -1);
        }
        span(x, 3, 3);
    }

    private static void oneIsAheadOfTwo() {
        due.part("8: the first of these: 1 ahead of 2");
        BathHouse x = house(10);
        x.club(0, 1, 0, 10, 0);
        x.ticket(0, SEASON, 0, false);
        x.ticket(0, CLUB, 0, false);
        comeIn(x, 0, 1);
        x.go(20);
        due.is(x.may(0), 1);
        due.is(x.may(1), 1);
    }

    private static void oneIsAheadOfThreeAndFour() {
        due.part("8: the first of these: 1 ahead of 3 and 4");
        BathHouse x = days(1, 1);
        comeIn(x, 0, 0);
        due.is(x.may(0), 1);
        x.put(0, 1);
        due.is(x.may(0), 1);
    }

    private static void twoIsAheadOfThree() {
        due.part("8: the first of these: 2 ahead of 3");
        BathHouse x = house(10);
        x.club(0, 1, 5, 10, 0);
        x.ticket(0, SEASON, 0, false);
        x.ticket(0, CLUB, 0, false);
        comeIn(x, 0, 0);
        x.out(0);
        x.put(0, 20);
        due.is(x.may(0), 2);
        due.is(x.may(1), 2);
        x.go(5);
        due.is(x.may(1), 3);
    }

    private static void threeIsAheadOfFour() {
        due.part("8: the first of these: 3 ahead of 4");
        BathHouse x = days(1, 2);
        comeIn(x, 0, 0);
        due.is(x.may(1), 4);
        x.put(0, 1);
        due.is(x.may(1), 3);
    }

    private static void fourIsAheadOfFive() {
        due.part("8: the first of these: 4 ahead of 5");
        BathHouse x = house(1);
        x.club(0, 1, 0, 10, 1);
        x.ticket(0, DAY, 0, false);
        x.ticket(0, SCHOOL, 0, false);
        due.is(x.may(1), 5);
        comeIn(x, 0, 0);
        due.is(x.may(1), 4);
    }

    private static void fiveIsAheadOfSix() {
        due.part("8: the first of these: 5 ahead of 6");
        BathHouse x = house(10);
        x.club(0, 1, 0, 10, 1);
        for (int t = 0; t < 3; t++) {
            x.ticket(0, DAY, 0, false);
        }
        x.ticket(0, SCHOOL, 0, false);
        comeIn(x, 0, 2);
        due.is(x.may(3), 5);
    }

    /** Tickets 0 and 1: teachers of school 0; from 2 on: its pupils. */
    private static BathHouse school(int pupilsToATeacher, int pupils) {
        BathHouse x = house(200);
        x.club(0, 1, 0, 1440, pupilsToATeacher);
        for (int t = 0; t < 2 + pupils; t++) {
            x.ticket(0, SCHOOL, 0, t < 2);
        }
        return x;
    }

    private static void noTeacherNoPupil() {
        due.part("5: no teacher is in");
        BathHouse x = school(30, 1);
        due.is(x.in(2), 5);
        due.is(x.in(0), 0);
        due.is(x.in(2), 0);
    }

    private static void teachersAreAlwaysEnough() {
        due.part("5: not for a teacher");
        BathHouse x = school(1, 1);
        due.is(x.in(0), 0);
        due.is(x.in(2), 0);
        due.is(x.in(1), 0);
    }

    private static void pupilsForEachTeacher() {
        due.part("5: more pupils than PUPILS for each teacher");
        BathHouse x = school(2, 6);
        comeIn(x, 0, 0);
        comeIn(x, 2, 3);
        due.is(x.in(4), 5);
        x.go(1);
        due.is(x.may(4), 5);
        comeIn(x, 1, 1);
        comeIn(x, 4, 5);
        due.is(x.in(6), 5);
    }

    private static void thirtyPupilsToATeacher() {
        due.part("5: 30 to a teacher");
        BathHouse x = school(30, 31);
        comeIn(x, 0, 0);
        for (int t = 2; t < 32; t++) {
            x.go(1);
            due.is(x.in(t), 0);
        }
        due.is(x.in(32), 5);
    }

    private static void teacherWhoWentOutCountsNoMore() {
        due.part("5: teacher that is in");
        BathHouse x = school(1, 3);
        comeIn(x, 0, 2);
        x.go(1);
        due.is(x.may(3), 0);
        x.out(1);
        due.is(x.may(3), 5);
        due.is(x.told(2, 3), 1);
        x.out(0);
        x.out(2);
        due.is(x.may(3), 5);
        x.go(1);
        comeIn(x, 1, 1);
        comeIn(x, 3, 3);
        due.is(x.may(4), 5);
    }

    private static void pupilWhoWentOutCountsNoMore() {
        due.part("5: there would be in");
        BathHouse x = school(1, 2);
        comeIn(x, 0, 0);
        comeIn(x, 2, 2);
        due.is(x.may(3), 5);
        x.out(2);
        due.is(x.may(3), 0);
        due.is(x.may(2), 0);
    }

    private static void anotherSchoolCountsNot() {
        due.part("5: of which there would be in");
        BathHouse x = school(1, 2);
        x.club(0, 2, 0, 1440, 1);
        x.club(0, 4, 0, 1440, 0);
        x.ticket(0, SCHOOL, 1, true);
        x.ticket(0, SCHOOL, 1, false);
        x.ticket(0, CLUB, 2, true);
        x.ticket(0, DAY, 0, true);
        comeIn(x, 4, 5);
        due.is(x.may(2), 5);
        x.go(1);
        comeIn(x, 6, 7);
        due.is(x.may(2), 5);
        comeIn(x, 0, 0);
        x.go(1);
        comeIn(x, 2, 2);
        due.is(x.may(3), 5);
    }

    private static void watcherComesIntoAShutPool() {
        due.part("WATCHER: let in always: 3 (not WATCHERS)");
        BathHouse x = new BathHouse();
        x.pool(0, 10, 4, 1);
        x.ticket(0, WATCHER, 0, false);
        x.ticket(0, DAY, 0, false);
        x.put(0, 5);
        due.is(x.may(1), 3);
        due.is(x.in(0), 0);
    }

    private static void watcherComesIntoAFullPool() {
        due.part("WATCHER: let in always: 4 (not WATCHERS)");
        BathHouse x = house(1);
        x.ticket(0, DAY, 0, false);
        x.ticket(0, WATCHER, 0, false);
        x.ticket(0, DAY, 0, false);
        comeIn(x, 0, 0);
        due.is(x.may(2), 4);
        due.is(x.in(1), 0);
        span(x, 2, 2);
        // MOST tells of all that were seen, WATCHERS too.
        x.out(0);
        due.is(x.may(2), 4);
        x.out(1);
        due.is(x.may(2), 0);
    }

    private static void watcherComesNotInTwice() {
        due.part("WATCHER: but while it is in");
        BathHouse x = house(10);
        x.ticket(0, WATCHER, 0, false);
        due.is(x.in(0), 0);
        due.is(x.in(0), 1);
        due.is(x.out(0), 0);
        due.is(x.in(0), 0);
    }

    private static void watcherComesInWithinTheDoorsLimit() {
        due.part("WATCHER: and by 6");
        BathHouse x = house(10);
        for (int t = 0; t < 4; t++) {
            x.ticket(0, WATCHER, 0, false);
        }
        x.ticket(0, DAY, 0, false);
        comeIn(x, 0, 2);
        due.is(x.in(3), 6);
        due.is(x.in(4), 6);
        due.is(x.may(0), 1);
        x.go(1);
        due.is(x.in(3), 0);
        due.is(x.count(0, 3), 4);
    }

    private static void watcherGoesOutWithinTheDoorsLimit() {
        due.part("at most 3 go out: WATCHERS too");
        BathHouse x = house(10);
        for (int t = 0; t < 4; t++) {
            x.ticket(0, t == 0 ? DAY : WATCHER, 0, false);
        }
        comeIn(x, 0, 2);
        x.go(1);
        comeIn(x, 3, 3);
        for (int t = 0; t < 3; t++) {
            due.is(x.out(t), 0);
        }
        due.is(x.out(3), -2);
        due.is(x.count(0, 3), 1);
        x.go(1);
        due.is(x.out(3), 0);
        due.is(x.count(0, 3), 0);
    }

    private static void threeComeInInAMinute() {
        due.part("at most 3 come in");
        BathHouse x = days(10, 4);
        comeIn(x, 0, 2);
        due.is(x.in(3), 6);
        due.is(x.count(0, 2), 3);
    }

    private static void threeGoOutInAMinute() {
        due.part("10: -2: three went out by that door in this MINUTE");
        BathHouse x = days(10, 4);
        comeIn(x, 0, 2);
        x.go(1);
        comeIn(x, 3, 3);
        for (int t = 0; t < 3; t++) {
            due.is(x.out(t), 0);
        }
        due.is(x.out(3), -2);
        due.is(x.out(0), -1);
        due.is(x.told(3, 3), 1);
        due.is(x.count(0, 2), 1);
        // That one came in again makes no room.
        comeIn(x, 0, 0);
        due.is(x.out(3), -2);
        due.is(x.out(0), -2);
        x.go(1);
        due.is(x.out(3), 0);
    }

    private static void inAndOutAreCountedApart() {
        due.part("3 come in and 3 go out");
        BathHouse x = days(10, 6);
        comeIn(x, 0, 2);
        x.go(1);
        for (int t = 0; t < 3; t++) {
            due.is(x.in(3 + t), 0);
            due.is(x.out(t), 0);
        }
        due.is(x.in(0), 6);
        due.is(x.out(3), -2);
        span(x, 3, 3);
    }

    private static void onesDoorIsNotAnothers() {
        due.part("by one POOL's door");
        BathHouse x = days(10, 4);
        x.pool(1, 10, 4, 0);
        x.ticket(1, DAY, 0, false);
        comeIn(x, 0, 2);
        due.is(x.in(4), 0);
        due.is(x.in(3), 6);
        for (int t = 0; t < 3; t++) {
            due.is(x.out(t), 0);
        }
        due.is(x.out(4), 0);
        due.is(x.in(4), 0);
        due.is(x.out(4), 0);
    }

    private static void doorIsFreeInTheNextMinute() {
        due.part("in one MINUTE");
        BathHouse x = days(50, 9);
        for (int t = 0; t < 9; t += 3) {
            comeIn(x, t, t + 2);
            x.go(1);
        }
        for (int t = 0; t < 9; t++) {
            due.is(x.out(t), 0);
            if (t % 3 == 2) {
                x.go(1);
            }
        }
        due.is(x.count(0, 2), 0);
    }

    private static void whoIsRefusedDoesNotCount() {
        due.part("whoever comes in or goes out");
        BathHouse x = days(10, 4);
        x.ticket(0, SEASON, 0, false);
        comeIn(x, 4, 4);
        for (int i = 0; i < 5; i++) {
            due.is(x.in(4), 1);
            due.is(x.in(9), -1);
            due.is(x.out(0), -1);
        }
        due.is(x.out(4), 0);
        due.is(x.in(4), 2);
        comeIn(x, 0, 1);
        due.is(x.in(2), 6);
        due.is(x.out(0), 0);
        due.is(x.out(1), 0);
    }

    private static void handAndEyeLeaveTheDoorsLimit() {
        due.part("in one MINUTE, whatever is counted by hand");
        BathHouse x = days(10, 4);
        comeIn(x, 0, 2);
        due.is(x.hand(0), 3);
        due.is(x.in(3), 6);
        x.eye(0, false);
        x.eye(0, true);
        due.is(x.in(3), 6);
        for (int t = 0; t < 3; t++) {
            x.out(t);
        }
        x.hand(0);
        x.eye(0, false);
        due.is(x.in(3), 6);
        x.go(1);
        due.is(x.hand(0), 0);
        due.is(x.in(3), 0);
    }

    private static void handAndEyeLeaveTheLimitOfGoingOut() {
        due.part("3 go out in one MINUTE, whatever is counted by hand");
        BathHouse x = days(10, 4);
        comeIn(x, 0, 2);
        x.go(1);
        comeIn(x, 3, 3);
        for (int t = 0; t < 3; t++) {
            due.is(x.out(t), 0);
        }
        due.is(x.hand(0), 1);
        due.is(x.out(3), -2);
        x.eye(0, false);
        due.is(x.out(3), -2);
        x.eye(0, true);
        x.hand(0);
        due.is(x.out(3), -2);
        x.go(1);
        due.is(x.out(3), 0);
    }

    private static int owedAfter(int kind, int a, boolean teacher, int cameAt, int stay) {
        BathHouse x = house(10);
        x.club(0, 1, 0, 30, 0);
        x.club(0, 2, 0, 30, 1);
        x.ticket(0, kind, a, teacher);
        x.ticket(0, SCHOOL, 1, true);
        step(x, cameAt);
        if (kind == SCHOOL) {
            due.is(x.in(1), 0);
        }
        due.is(x.in(0), 0);
        step(x, stay);
        int coins = x.out(0);
        due.is(x.told(0, 5), coins);
        due.is(x.all(4), coins);
        return coins;
    }

    private static void nothingWithinItsMinutes() {
        due.part("OWES: if that is above 0");
        due.is(owedAfter(HOUR, 15, false, 0, 0), 0);
        due.is(owedAfter(HOUR, 15, false, 0, 14), 0);
        due.is(owedAfter(HOUR, 15, false, 0, 15), 20);
    }

    private static void twentyForEachQuarterBegun() {
        due.part("OWES: 20 coins for each quarter begun");
        due.is(owedAfter(HOUR, 15, false, 0, 29), 20);
        due.is(owedAfter(HOUR, 15, false, 0, 30), 40);
        due.is(owedAfter(HOUR, 15, false, 0, 44), 40);
        due.is(owedAfter(HOUR, 15, false, 0, 45), 60);
        due.is(owedAfter(HOUR, 15, false, 0, 1439), 20 * 95);
    }

    private static void hourIsCountedFromWhenItCameIn() {
        due.part("HOUR: counted from the MINUTE in which it came in");
        due.is(owedAfter(HOUR, 20, false, 100, 19), 0);
        due.is(owedAfter(HOUR, 20, false, 100, 20), 20);
        BathHouse x = house(10);
        x.ticket(0, HOUR, 15, false);
        for (int i = 1; i <= 3; i++) {
            comeIn(x, 0, 0);
            x.go(15);
            due.is(x.out(0), 20);
            comeIn(x, 0, 0);
            x.go(14);
            due.is(x.out(0), 0);
            due.is(x.told(0, 5), 20 * i);
        }
    }

    private static void longestHour() {
        due.part("HOUR: 240 MINUTES");
        due.is(owedAfter(HOUR, 240, false, 0, 239), 0);
        due.is(owedAfter(HOUR, 240, false, 0, 240), 20);
        due.is(owedAfter(HOUR, 240, false, 0, 1439), 20 * 80);
    }

    private static void clubOwesBehindItsEnd() {
        due.part("OWES: CLUB");
        due.is(owedAfter(CLUB, 0, false, 0, 29), 0);
        due.is(owedAfter(CLUB, 0, false, 0, 30), 20);
        due.is(owedAfter(CLUB, 0, false, 29, 0), 0);
        due.is(owedAfter(CLUB, 0, false, 29, 1), 20);
        due.is(owedAfter(CLUB, 0, false, 29, 15), 20);
        due.is(owedAfter(CLUB, 0, false, 29, 16), 40);
    }

    private static void schoolOwesBehindItsEnd() {
        due.part("OWES: SCHOOL, a pupil or a teacher");
        for (int i = 0; i < 2; i++) {
            due.is(owedAfter(SCHOOL, 1, i == 0, 10, 19), 0);
            due.is(owedAfter(SCHOOL, 1, i == 0, 10, 20), 20);
            due.is(owedAfter(SCHOOL, 1, i == 0, 10, 34), 20);
            due.is(owedAfter(SCHOOL, 1, i == 0, 10, 35), 40);
        }
    }

    private static void dayOwesNothing() {
        due.part("OWES: DAY: nothing");
        for (int kind : new int[] {DAY, SEASON, WATCHER}) {
            due.is(owedAfter(kind, 15, true, 0, 1439), 0);
            due.is(owedAfter(kind, -1000, false, 0, 16), 0);
        }
    }

    private static void eyeNeedsAPool() {
        due.part("11: no such POOL");
        BathHouse x = house(10);
        for (int p : NO_POOLS) {
            due.is(x.eye(p, false), false);
            due.is(x.eye(p, true), false);
        }
        due.is(x.count(0, 7), 1);
    }

    private static void eyeIsSoAlready() {
        due.part("11: it is so already");
        BathHouse x = house(10);
        due.is(x.eye(0, true), false);
        // On already: that is no MINUTE in which it was off.
        span(x, 0, 0);
        due.is(x.eye(0, false), true);
        due.is(x.eye(0, false), false);
        due.is(x.count(0, 7), 0);
        due.is(x.eye(0, true), true);
        due.is(x.eye(0, true), false);
        due.is(x.count(0, 7), 1);
    }

    private static void eyeIsOnAtFirst() {
        due.part("2: the EYE of a POOL that was told");
        BathHouse x = house(10);
        due.is(x.count(0, 7), 1);
        x.go(1);
        span(x, 0, 0);
    }

    private static void spanIsZeroAtTheBeginning() {
        due.part("SPAN: 0 to 0 at the beginning");
        BathHouse x = house(10);
        span(x, 0, 0);
        step(x, 1439);
        span(x, 0, 0);
    }

    private static void watchersAreSeen() {
        due.part("(WATCHERS too)");
        BathHouse x = house(10);
        x.ticket(0, WATCHER, 0, false);
        x.ticket(0, WATCHER, 0, false);
        comeIn(x, 0, 1);
        span(x, 2, 2);
        x.go(1);
        x.out(0);
        span(x, 1, 1);
    }

    private static void bothAreMoreByWhoCameLessByWhoWent() {
        due.part("SPAN: both are more by who was seen to come, less by who went");
        BathHouse x = days(50, 9);
        comeIn(x, 0, 2);
        span(x, 3, 3);
        x.go(1);
        span(x, 3, 3);
        x.out(0);
        span(x, 2, 2);
        comeIn(x, 3, 4);
        span(x, 4, 4);
        x.go(3);
        span(x, 4, 4);
    }

    private static void leastIsNotBelowZeroWhileSeen() {
        due.part("SPAN: LEAST not below 0");
        BathHouse x = days(50, 3);
        comeIn(x, 0, 2);
        x.eye(0, false);
        x.eye(0, true);
        x.go(1);
        span(x, 0, 3);
        x.out(0);
        x.out(1);
        span(x, 0, 1);
        x.go(1);
        comeIn(x, 0, 0);
        // From 0 on again, not from 2 below it.
        span(x, 1, 2);
    }

    private static void leastIsReckonedByTheMinute() {
        due.part("SPAN: LEAST not below 0: by all who came and went in a MINUTE");
        BathHouse x = days(50, 3);
        comeIn(x, 0, 1);
        x.eye(0, false);
        x.eye(0, true);
        x.go(1);
        x.out(0);
        span(x, 0, 2);
        // One went and one came: LEAST is as it was, not one more.
        x.in(0);
        span(x, 0, 3);
        x.out(1);
        span(x, 0, 2);
        x.in(1);
        x.in(2);
        span(x, 1, 4);
        x.go(1);
        span(x, 1, 4);
    }

    private static void leastIsThreeLessWhileOff() {
        due.part("SPAN: LEAST is 3 less (not below 0)");
        BathHouse x = days(50, 7);
        comeIn(x, 0, 2);
        x.go(1);
        comeIn(x, 3, 5);
        x.go(1);
        comeIn(x, 6, 6);
        x.go(1);
        x.eye(0, false);
        int[] least = {4, 1, 0, 0};
        for (int i = 0; i < 4; i++) {
            due.is(x.count(0, 0), least[i]);
            x.go(1);
        }
    }

    private static void mostIsThreeMoreWhileOff() {
        due.part("SPAN: MOST 3 more");
        BathHouse x = house(50);
        x.eye(0, false);
        for (int i = 1; i <= 5; i++) {
            due.is(x.count(0, 1), 3 * i);
            x.go(1);
        }
        step(x, 1434);
        span(x, 0, 4320);
        due.is(x.hand(0), 0);
        span(x, 0, 3);
    }

    private static void eachMinuteIsReckoned() {
        due.part("SPAN: at the end of each MINUTE, and NOW");
        BathHouse x = house(50);
        x.eye(0, false);
        x.go(4);
        span(x, 0, 15);
        x.eye(0, true);
        x.go(240);
        span(x, 0, 15);
    }

    private static void whatIsSeenInAnOffMinuteDoesNotCount() {
        due.part("SPAN: what was seen in it does not count");
        BathHouse x = days(50, 6);
        comeIn(x, 0, 1);
        x.eye(0, false);
        x.in(2);
        x.eye(0, true);
        x.out(0);
        span(x, 0, 3);
        x.go(1);
        span(x, 0, 3);
        // Who goes out unseen is counted neither.
        x.eye(0, false);
        x.out(1);
        x.go(1);
        x.eye(0, true);
        x.go(1);
        span(x, 0, 9);
    }

    private static void offForNoTime() {
        due.part("(also for no time at all)");
        BathHouse x = days(50, 3);
        x.eye(0, false);
        x.eye(0, true);
        span(x, 0, 3);
        x.eye(0, false);
        x.eye(0, true);
        // Off twice in one MINUTE is off once.
        span(x, 0, 3);
        x.go(1);
        span(x, 0, 3);
        x.go(1);
        span(x, 0, 3);
    }

    private static void onAgainIsOffInThatMinute() {
        due.part("in which it was OFF at any time: turned on");
        BathHouse x = days(50, 3);
        x.eye(0, false);
        x.go(1);
        due.is(x.eye(0, true), true);
        x.in(0);
        span(x, 0, 6);
        x.go(1);
        x.in(1);
        span(x, 1, 7);
    }

    private static void offNextMinuteLeavesThisOne() {
        due.part("a MINUTE in which the EYE was on all the time");
        BathHouse x = days(50, 3);
        comeIn(x, 0, 2);
        x.go(1);
        x.eye(0, false);
        span(x, 0, 6);
        x.eye(0, true);
        x.go(1);
        span(x, 0, 6);
    }

    private static void handNeedsAPool() {
        due.part("12: no such POOL");
        BathHouse x = house(10);
        for (int p : NO_POOLS) {
            due.is(x.hand(p), -1);
        }
        due.is(x.hand(0), 0);
    }

    private static void handMakesBothThatNumber() {
        due.part("12: as many as there are IN TRUTH");
        BathHouse x = days(50, 3);
        x.eye(0, false);
        comeIn(x, 0, 1);
        x.go(2);
        x.eye(0, true);
        x.go(1);
        span(x, 0, 9);
        due.is(x.hand(0), 2);
        span(x, 2, 2);
        x.go(5);
        span(x, 2, 2);
        due.is(x.count(0, 2), 2);
    }

    private static void handOfAnEmptyPool() {
        due.part("12: nobody is in");
        BathHouse x = days(50, 1);
        x.eye(0, false);
        x.go(9);
        x.eye(0, true);
        due.is(x.hand(0), 0);
        span(x, 0, 0);
        comeIn(x, 0, 0);
        span(x, 1, 1);
    }

    private static void handCountsWatchers() {
        due.part("12: IN TRUTH a POOL has those that came in and did not go");
        BathHouse x = days(50, 2);
        x.ticket(0, WATCHER, 0, false);
        comeIn(x, 0, 2);
        x.out(1);
        due.is(x.hand(0), 2);
        due.is(x.count(0, 2), 2);
        due.is(x.count(0, 3), 1);
    }

    private static void restOfItsMinuteWithTheEyeOn() {
        due.part("what is left of its MINUTE, the EYE on");
        BathHouse x = days(50, 3);
        comeIn(x, 0, 1);
        due.is(x.hand(0), 2);
        // What was seen ahead of the count is not reckoned again.
        span(x, 2, 2);
        comeIn(x, 2, 2);
        span(x, 3, 3);
        x.out(0);
        span(x, 2, 2);
        x.go(1);
        span(x, 2, 2);
    }

    private static void restOfItsMinuteWithTheEyeOff() {
        due.part("what is left of its MINUTE, the EYE off");
        BathHouse x = days(50, 6);
        comeIn(x, 0, 2);
        x.go(1);
        comeIn(x, 3, 4);
        x.eye(0, false);
        due.is(x.hand(0), 5);
        span(x, 2, 8);
        x.in(5);
        span(x, 2, 8);
        x.go(1);
        span(x, 0, 11);
    }

    private static void restOfItsMinuteAfterOff() {
        due.part("what is left of its MINUTE: off ahead of it alone");
        BathHouse x = days(50, 3);
        comeIn(x, 0, 0);
        x.eye(0, false);
        x.eye(0, true);
        span(x, 0, 3);
        due.is(x.hand(0), 1);
        span(x, 1, 1);
        comeIn(x, 1, 1);
        x.go(1);
        span(x, 2, 2);
    }

    private static void restOfItsMinuteTurnedOn() {
        due.part("what is left of its MINUTE: turned on, or off and on, behind it");
        BathHouse x = days(50, 3);
        x.eye(0, false);
        x.hand(0);
        x.eye(0, true);
        x.in(0);
        span(x, 0, 3);
        x.go(1);
        span(x, 0, 3);
        due.is(x.hand(0), 1);
        x.eye(0, false);
        x.eye(0, true);
        span(x, 0, 4);
    }

    private static void latestHandOfAMinute() {
        due.part("12: counted twice in one MINUTE");
        BathHouse x = days(50, 3);
        x.eye(0, false);
        due.is(x.hand(0), 0);
        comeIn(x, 0, 1);
        due.is(x.hand(0), 2);
        span(x, 0, 5);
        due.is(x.hand(0), 2);
        span(x, 0, 5);
        x.eye(0, true);
        due.is(x.hand(0), 2);
        span(x, 2, 2);
    }

    private static void handIsForItsPool() {
        due.part("12: POOL p");
        BathHouse x = house(50);
        x.pool(1, 50, 4, 0);
        x.ticket(1, DAY, 0, false);
        due.is(x.in(0), 0);
        x.eye(0, false);
        x.eye(1, false);
        x.go(2);
        x.eye(1, true);
        due.is(x.hand(1), 1);
        due.is(x.count(1, 0), 1);
        due.is(x.count(1, 1), 1);
        span(x, 0, 9);
        x.eye(0, true);
        due.is(x.hand(0), 0);
        span(x, 0, 0);
        due.is(x.count(1, 1), 1);
    }

    private static void countNeedsAPool() {
        due.part("13: no such POOL");
        BathHouse x = house(10);
        for (int p : NO_POOLS) {
            for (int what = -1; what <= 8; what++) {
                due.is(x.count(p, what), -1);
            }
        }
    }

    private static void countIsNoneForOthers() {
        due.part("13: NONE for others");
        BathHouse x = house(10);
        for (int what : new int[] {-1, 8, 9, LEAST, MOST}) {
            due.is(x.count(0, what), -1);
        }
    }

    private static void countTellsEach() {
        due.part("13: what 0 to 7");
        BathHouse x = new BathHouse();
        x.pool(0, 60, 7, 2);
        x.pool(1, 61, 6, 0);
        x.club(0, 5, 0, 10, 0);
        x.ticket(0, WATCHER, 0, false);
        x.ticket(0, WATCHER, 0, false);
        comeIn(x, 0, 1);
        x.post(0, 0, 0);
        x.go(1);
        x.eye(0, false);
        x.hand(0);
        int[] want = {0, 5, 2, 2, 60, 5, 1, 0};
        int[] other = {0, 0, 0, 0, 61, 6, 0, 1};
        for (int what = 0; what <= 7; what++) {
            due.is(x.count(0, what), want[what]);
            due.is(x.count(1, what), other[what]);
        }
        x.out(0);
        due.is(x.count(0, 3), 1);
        due.is(x.count(0, 6), 0);
    }
}

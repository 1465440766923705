/** The edges of terms 1 and of promises 1 to 7 and 30: a test for each sentence that names one. */
public final class DayEdgeTest {
    private static final Due due = new Due("DayEdgeTest");
    private static final int LEAST = Integer.MIN_VALUE;
    private static final int MOST = Integer.MAX_VALUE;

    public static void main(String[] args) {
        newObject();
        pools();
        goes();
        tickets();
        clubs();
        clashes();
        leaves();
        sums();
        due.end();
    }

    private static void newObject() {
        newHasNoPools();
        newIsInMinuteZero();
        newHasPricesOfOne();
        newHasNothingElse();
        newSharesNothing();
    }

    private static void pools() {
        poolsAreZeroToThree();
        headsAreOneToTwoHundred();
        lanesAreOneToEight();
        postsAreZeroToThree();
        poolIsToldOnce();
        poolIsToldWhileNowIsZero();
        poolRefusedMayBeToldStill();
    }

    private static void goes() {
        goIsOneToTwoHundredForty();
        nowIsNotAbove1439();
        goPassesEachMinute();
    }

    private static void tickets() {
        ticketsAreTwoHundredAtMost();
        ticketNeedsItsPool();
        ticketKindsAreZeroToFive();
        hourHasFifteenToTwoHundredForty();
        othersAreNotLookedAt();
        clubTicketNeedsAClubOfItsPool();
        clubTicketIsOfNoSchool();
        clubThatEndedHasTicketsStill();
        schoolTicketIsOfASchool();
        refusedTicketTakesNoNumber();
    }

    private static void clubs() {
        clubsAreTwentyAtMost();
        clubNeedsItsPool();
        clubLanesAreThePools();
        clubBeginsInTheDay();
        clubEndsBehindItsBeginning();
        clubPupilsAreZeroToThirty();
        clubIsThereFromFirstToAheadOfSecond();
        clubTakesLanesWhileItIsThere();
        clubsTakeLanesTogether();
        clubHasMinutesToItsEnd();
        refusedClubTakesNoNumber();
    }

    private static void clashes() {
        oneLaneInOneMinuteInOnePool();
        anotherLaneIsNoClash();
        anotherMinuteIsNoClash();
        anotherPoolIsNoClash();
        clashIsNoneIfNoneWas();
        clubsFullIsNoClash();
        clashIsTheLowestNumber();
        clashIsOfTheLatest();
    }

    private static void leaves() {
        leaveNeedsAClub();
        leaveInItsLastMinute();
        leaveWhenItHasEnded();
        leaveTwice();
        leaveInItsFirstMinute();
        leaveAheadOfItsBeginning();
        leaveFreesTheMinutesFromNowOn();
    }

    private static BathHouse house() {
        BathHouse x = new BathHouse();
        x.pool(0, 10, 4, 0);
        return x;
    }

    private static void step(BathHouse x, int minutes) {
        for (int left = minutes; left > 0; left -= 240) {
            x.go(Math.min(left, 240));
        }
    }

    private static void newHasNoPools() {
        due.part("1: No POOLS");
        BathHouse x = new BathHouse();
        for (int p = 0; p <= 3; p++) {
            due.is(x.ticket(p, 0, 0, false), -1);
            due.is(x.club(p, 1, 0, 10, 0), -1);
            due.is(x.eye(p, false), false);
            due.is(x.hand(p), -1);
            due.is(x.count(p, 2), -1);
            due.is(x.bounds(p, 0, 0, 1), false);
            due.is(x.measure(p, 0, 0f), -200001);
            due.is(x.put(p, 1), false);
            due.is(x.shut(p), -1);
            due.is(x.minutes(p), -1);
            due.is(x.watcher(p, 0), -1);
            due.is(x.pump(p, 1, 1), false);
            due.is(x.turn(p, 0), -1);
        }
    }

    private static void newIsInMinuteZero() {
        due.part("1: MINUTE 0");
        BathHouse x = new BathHouse();
        due.is(x.all(0), 0);
        due.is(x.pool(0, 10, 4, 0), true);
        due.is(x.go(1), 1);
    }

    private static void newHasPricesOfOne() {
        due.part("1: all PRICES 1");
        for (int hour = 0; hour < 24; hour++) {
            BathHouse x = house();
            x.pump(0, 24, 1);
            due.is(x.turn(0, 0), 24);
            due.is(x.hour(24), 24);
            x.price(hour, 0);
            due.is(x.turn(0, 0), 24);
            due.is(x.hour(24), 23);
        }
    }

    private static void newHasNothingElse() {
        due.part("1: a new object");
        BathHouse x = new BathHouse();
        for (int what = 1; what <= 6; what++) {
            due.is(x.all(what), 0);
        }
        for (int l = 0; l < 30; l++) {
            due.is(x.locker(l), -1);
        }
        due.is(x.clash(), -1);
        due.is(x.may(0), -1);
        due.is(x.leave(0), false);
        due.is(x.hour(0), -1);
    }

    private static void newSharesNothing() {
        due.part("All memory is the house's own");
        BathHouse x = house();
        x.club(0, 15, 0, 10, 0);
        x.club(0, 15, 0, 10, 0);
        x.ticket(0, 5, 0, false);
        x.in(0);
        x.key(0);
        x.price(0, 9);
        x.pump(0, 1, 1);
        x.turn(0, 0);
        x.go(9);
        newIsInMinuteZero();
        newHasNothingElse();
        newHasNoPools();
        newHasPricesOfOne();
        due.is(x.all(0), 9);
        due.is(x.locker(0), 0);
    }

    private static void poolsAreZeroToThree() {
        due.part("2: no such p");
        BathHouse x = new BathHouse();
        for (int p : new int[] {-1, 4, 5, LEAST, MOST}) {
            due.is(x.pool(p, 10, 4, 1), false);
        }
        for (int p = 0; p <= 3; p++) {
            due.is(x.pool(p, 10 + p, 4, 1), true);
        }
        for (int p = 0; p <= 3; p++) {
            due.is(x.count(p, 4), 10 + p);
        }
    }

    private static void headsAreOneToTwoHundred() {
        due.part("2: HEADS (1 to 200)");
        BathHouse x = new BathHouse();
        for (int heads : new int[] {0, -1, 201, LEAST, MOST}) {
            due.is(x.pool(0, heads, 4, 1), false);
        }
        due.is(x.pool(0, 1, 4, 0), true);
        due.is(x.pool(1, 200, 4, 0), true);
        due.is(x.count(0, 4), 1);
        due.is(x.count(1, 4), 200);
    }

    private static void lanesAreOneToEight() {
        due.part("2: LANES (1 to 8)");
        BathHouse x = new BathHouse();
        for (int lanes : new int[] {0, -1, 9, 32, LEAST, MOST}) {
            due.is(x.pool(0, 10, lanes, 1), false);
        }
        due.is(x.pool(0, 10, 1, 0), true);
        due.is(x.pool(1, 10, 8, 0), true);
        due.is(x.count(0, 5), 1);
        due.is(x.count(1, 5), 8);
    }

    private static void postsAreZeroToThree() {
        due.part("2: POSTS (0 to 3)");
        BathHouse x = new BathHouse();
        for (int posts : new int[] {-1, 4, LEAST, MOST}) {
            due.is(x.pool(0, 10, 4, posts), false);
        }
        due.is(x.pool(0, 10, 4, 0), true);
        due.is(x.pool(1, 10, 4, 3), true);
        x.ticket(0, 5, 0, false);
        x.ticket(1, 5, 0, false);
        x.in(0);
        x.in(1);
        due.is(x.post(0, 0, 0), -2);
        due.is(x.post(1, 3, 1), -2);
        due.is(x.post(1, 2, 1), -1);
    }

    private static void poolIsToldOnce() {
        due.part("2: it was told");
        BathHouse x = new BathHouse();
        due.is(x.pool(0, 10, 4, 1), true);
        due.is(x.pool(0, 10, 4, 1), false);
        due.is(x.pool(0, 20, 8, 2), false);
        due.is(x.count(0, 4), 10);
        due.is(x.count(0, 5), 4);
        due.is(x.pool(1, 10, 4, 1), true);
    }

    private static void poolIsToldWhileNowIsZero() {
        due.part("2: NOW is not 0");
        BathHouse x = new BathHouse();
        x.go(0);
        x.go(241);
        due.is(x.pool(0, 10, 4, 1), true);
        x.go(1);
        due.is(x.pool(1, 10, 4, 1), false);
        due.is(x.pool(0, 10, 4, 1), false);
        step(x, 1438);
        due.is(x.pool(1, 10, 4, 1), false);
        due.is(x.count(1, 4), -1);
    }

    private static void poolRefusedMayBeToldStill() {
        due.part("2: refused, it was not told");
        BathHouse x = new BathHouse();
        due.is(x.pool(3, 10, 4, 4), false);
        due.is(x.shut(3), -1);
        due.is(x.pool(3, 10, 4, 3), true);
    }

    private static void goIsOneToTwoHundredForty() {
        due.part("3: 1 to 240");
        BathHouse x = new BathHouse();
        for (int n : new int[] {0, -1, 241, LEAST, MOST, MOST - 239}) {
            due.is(x.go(n), -1);
        }
        due.is(x.all(0), 0);
        due.is(x.go(1), 1);
        due.is(x.go(240), 241);
        due.is(x.go(MOST), -1);
        due.is(x.all(0), 241);
    }

    private static void nowIsNotAbove1439() {
        due.part("3: NOW would be above 1439");
        BathHouse x = new BathHouse();
        step(x, 1200);
        due.is(x.go(240), -1);
        due.is(x.all(0), 1200);
        due.is(x.go(238), 1438);
        due.is(x.go(2), -1);
        due.is(x.go(1), 1439);
        due.is(x.go(1), -1);
        due.is(x.go(240), -1);
        due.is(x.all(0), 1439);
    }

    private static void goPassesEachMinute() {
        due.part("3: so many MINUTES go by");
        BathHouse x = house();
        x.eye(0, false);
        x.put(0, 7);
        x.go(10);
        due.is(x.count(0, 1), 33);
        due.is(x.minutes(0), 7);
    }

    private static void ticketsAreTwoHundredAtMost() {
        due.part("4: 200 are there");
        BathHouse x = house();
        x.club(0, 1, 0, 10, 0);
        for (int t = 0; t < 200; t++) {
            due.is(x.ticket(0, 0, 0, false), t);
        }
        for (int kind = 0; kind <= 5; kind++) {
            due.is(x.ticket(0, kind, 15, false), -1);
        }
        due.is(x.ticket(0, 2, 0, false), -1);
        due.is(x.all(1), 200);
        due.is(x.in(199), 0);
        due.is(x.may(200), -1);
    }

    private static void ticketNeedsItsPool() {
        due.part("4: no such POOL");
        BathHouse x = house();
        for (int p : new int[] {-1, 1, 3, 4, LEAST, MOST}) {
            due.is(x.ticket(p, 0, 0, false), -1);
        }
        due.is(x.ticket(0, 0, 0, false), 0);
    }

    private static void ticketKindsAreZeroToFive() {
        due.part("4: no such KIND");
        BathHouse x = house();
        x.club(0, 1, 0, 10, 0);
        x.club(0, 2, 0, 10, 1);
        for (int kind : new int[] {-1, 6, 7, LEAST, MOST}) {
            due.is(x.ticket(0, kind, 0, false), -1);
            due.is(x.ticket(0, kind, 15, false), -1);
        }
        int[] fitting = {0, 15, 0, 1, 0, 0};
        for (int kind = 0; kind <= 5; kind++) {
            due.is(x.ticket(0, kind, fitting[kind], false), kind);
            due.is(x.told(kind, 1), kind);
        }
    }

    private static void hourHasFifteenToTwoHundredForty() {
        due.part("4: MINUTES (15 to 240)");
        BathHouse x = house();
        for (int a : new int[] {14, 0, -15, 241, LEAST, MOST}) {
            due.is(x.ticket(0, 1, a, false), -1);
        }
        due.is(x.ticket(0, 1, 15, false), 0);
        due.is(x.ticket(0, 1, 240, false), 1);
        x.in(0);
        x.in(1);
        due.is(x.told(0, 7), 14);
        due.is(x.told(1, 7), 239);
    }

    private static void othersAreNotLookedAt() {
        due.part("4: (others are not looked at)");
        BathHouse x = house();
        int number = 0;
        for (int kind : new int[] {0, 4, 5}) {
            for (int a : new int[] {LEAST, -1, 14, 241, MOST}) {
                due.is(x.ticket(0, kind, a, a > 0), number);
                number++;
            }
        }
        due.is(x.ticket(0, 1, 15, true), number);
        x.club(0, 1, 0, 10, 0);
        due.is(x.ticket(0, 2, 0, true), number + 1);
        due.is(x.may(0), 0);
        due.is(x.may(number), 0);
        due.is(x.may(number + 1), 0);
    }

    private static void clubTicketNeedsAClubOfItsPool() {
        due.part("4: a is a CLUB of p");
        BathHouse x = house();
        x.pool(1, 10, 4, 0);
        due.is(x.ticket(0, 2, 0, false), -1);
        x.club(0, 1, 0, 10, 0);
        x.club(1, 1, 0, 10, 0);
        for (int a : new int[] {-1, 1, 2, 19, 20, LEAST, MOST}) {
            due.is(x.ticket(0, 2, a, false), -1);
        }
        due.is(x.ticket(1, 2, 0, false), -1);
        due.is(x.ticket(0, 2, 0, false), 0);
        due.is(x.ticket(1, 2, 1, false), 1);
    }

    private static void clubTicketIsOfNoSchool() {
        due.part("4: (no SCHOOL)");
        BathHouse x = house();
        x.club(0, 1, 0, 10, 1);
        x.club(0, 2, 0, 10, 30);
        x.club(0, 4, 0, 10, 0);
        due.is(x.ticket(0, 2, 0, false), -1);
        due.is(x.ticket(0, 2, 1, true), -1);
        due.is(x.ticket(0, 2, 2, false), 0);
    }

    private static void clubThatEndedHasTicketsStill() {
        due.part("4: a is a CLUB of p: one that has ended, or was given up, is one still");
        BathHouse x = house();
        x.club(0, 1, 0, 5, 0);
        x.club(0, 2, 0, 20, 0);
        x.club(0, 4, 10, 20, 0);
        x.club(0, 8, 10, 20, 1);
        x.go(5);
        for (int c = 1; c < 4; c++) {
            due.is(x.leave(c), true);
        }
        for (int c = 0; c < 4; c++) {
            due.is(x.ticket(0, c == 3 ? 3 : 2, c, true), c);
            due.is(x.may(c), 2);
        }
        x.go(5);
        due.is(x.may(2), 2);
        due.is(x.may(3), 2);
    }

    private static void schoolTicketIsOfASchool() {
        due.part("4: a SCHOOL of p, teacher or not");
        BathHouse x = house();
        x.pool(1, 10, 4, 0);
        due.is(x.ticket(0, 3, 0, true), -1);
        x.club(0, 1, 0, 10, 0);
        x.club(0, 2, 0, 10, 1);
        x.club(1, 2, 0, 10, 1);
        for (int a : new int[] {-1, 0, 2, 3, 20, LEAST, MOST}) {
            due.is(x.ticket(0, 3, a, true), -1);
            due.is(x.ticket(0, 3, a, false), -1);
        }
        due.is(x.ticket(0, 3, 1, true), 0);
        due.is(x.ticket(0, 3, 1, false), 1);
        due.is(x.may(0), 0);
        due.is(x.may(1), 5);
    }

    private static void refusedTicketTakesNoNumber() {
        due.part("4: refused, it takes no number");
        BathHouse x = house();
        due.is(x.ticket(0, 0, 0, false), 0);
        due.is(x.ticket(0, 6, 0, false), -1);
        due.is(x.ticket(0, 1, 14, false), -1);
        due.is(x.ticket(1, 0, 0, false), -1);
        due.is(x.all(1), 1);
        due.is(x.told(1, 0), -1);
        due.is(x.ticket(0, 4, 0, false), 1);
    }

    private static void clubsAreTwentyAtMost() {
        due.part("5: 20 are there");
        BathHouse x = house();
        for (int c = 0; c < 20; c++) {
            due.is(x.club(0, 1, c, c + 1, 0), c);
        }
        due.is(x.club(0, 2, 0, 1, 0), -1);
        due.is(x.ticket(0, 2, 19, false), 0);
        x.go(1);
        // One that has ended, or was given up, is one of the 20 still.
        due.is(x.leave(19), true);
        due.is(x.leave(20), false);
        due.is(x.club(0, 2, 0, 1, 0), -1);
        due.is(x.all(2), 20);
        due.is(x.clash(), -1);
    }

    private static void clubsFullIsNoClash() {
        due.part("6: refused for 20 that are there, not by a clash");
        BathHouse x = house();
        for (int c = 0; c < 19; c++) {
            x.club(0, 1, c, c + 1, 0);
        }
        due.is(x.club(0, 1, 18, 19, 0), -1);
        due.is(x.clash(), 18);
        due.is(x.club(0, 1, 19, 20, 0), 19);
        due.is(x.club(0, 1, 3, 4, 0), -1);
        due.is(x.clash(), 18);
    }

    private static void clubNeedsItsPool() {
        due.part("5: no such POOL");
        BathHouse x = house();
        for (int p : new int[] {-1, 1, 3, 4, LEAST, MOST}) {
            due.is(x.club(p, 1, 0, 10, 0), -1);
        }
        due.is(x.club(0, 1, 0, 10, 0), 0);
    }

    private static void clubLanesAreThePools() {
        due.part("5: LANES (none, or not of it)");
        BathHouse x = new BathHouse();
        x.pool(0, 10, 1, 0);
        x.pool(1, 10, 4, 0);
        x.pool(2, 10, 8, 0);
        for (int lanes : new int[] {0, -1, 256, 257, 512, LEAST, LEAST + 1, MOST}) {
            for (int p = 0; p <= 2; p++) {
                due.is(x.club(p, lanes, 0, 10, 0), -1);
            }
        }
        due.is(x.club(0, 2, 0, 10, 0), -1);
        due.is(x.club(0, 3, 0, 10, 0), -1);
        due.is(x.club(1, 16, 0, 10, 0), -1);
        due.is(x.club(1, 24, 0, 10, 0), -1);
        due.is(x.club(0, 1, 0, 10, 0), 0);
        due.is(x.club(1, 15, 0, 10, 0), 1);
        due.is(x.club(2, 255, 0, 10, 0), 2);
    }

    private static void clubBeginsInTheDay() {
        due.part("5: MINUTES (from 0 to 1439)");
        BathHouse x = house();
        for (int from : new int[] {-1, 1440, 1441, LEAST, MOST}) {
            due.is(x.club(0, 1, from, 1440, 0), -1);
        }
        due.is(x.club(0, 1, -1, 0, 0), -1);
        due.is(x.club(0, 1, 1440, 1441, 0), -1);
        due.is(x.club(0, 1, 0, 1, 0), 0);
        due.is(x.club(0, 1, 1439, 1440, 0), 1);
    }

    private static void clubEndsBehindItsBeginning() {
        due.part("5: to above it and to 1440");
        BathHouse x = house();
        for (int to : new int[] {10, 9, 0, -1, 1441, LEAST, MOST}) {
            due.is(x.club(0, 1, 10, to, 0), -1);
        }
        due.is(x.club(0, 1, 0, 0, 0), -1);
        due.is(x.club(0, 1, 1439, 1439, 0), -1);
        due.is(x.club(0, 1, 10, 11, 0), 0);
        due.is(x.club(0, 1, 11, 1440, 0), 1);
    }

    private static void clubPupilsAreZeroToThirty() {
        due.part("5: PUPILS (0 to 30)");
        BathHouse x = house();
        for (int pupils : new int[] {-1, 31, LEAST, MOST}) {
            due.is(x.club(0, 1, 0, 10, pupils), -1);
        }
        due.is(x.club(0, 1, 0, 10, 0), 0);
        due.is(x.club(0, 2, 0, 10, 1), 1);
        due.is(x.club(0, 4, 0, 10, 30), 2);
    }

    private static void clubIsThereFromFirstToAheadOfSecond() {
        due.part("it is there from the first on, ahead of the second");
        BathHouse x = house();
        x.club(0, 1, 10, 12, 0);
        x.club(0, 2, 1439, 1440, 1);
        x.ticket(0, 2, 0, false);
        x.ticket(0, 3, 1, true);
        due.is(x.may(0), 2);
        x.go(9);
        due.is(x.may(0), 2);
        x.go(1);
        due.is(x.may(0), 0);
        x.go(1);
        due.is(x.may(0), 0);
        x.go(1);
        due.is(x.may(0), 2);
        step(x, 1426);
        due.is(x.may(1), 2);
        x.go(1);
        for (int thing = 0; thing < 3; thing++) {
            x.measure(0, thing, 0f);
        }
        due.is(x.may(1), 0);
    }

    private static void clubTakesLanesWhileItIsThere() {
        due.part("13: LANES that are no CLUB's NOW");
        BathHouse x = house();
        x.club(0, 3, 1, 2, 0);
        x.club(0, 4, 2, 4, 5);
        due.is(x.count(0, 5), 4);
        x.go(1);
        due.is(x.count(0, 5), 2);
        x.go(1);
        due.is(x.count(0, 5), 3);
        x.go(1);
        due.is(x.count(0, 5), 3);
        x.go(1);
        due.is(x.count(0, 5), 4);
    }

    private static void clubsTakeLanesTogether() {
        due.part("13: LANES that are no CLUB's NOW: of several CLUBS, of all LANES");
        BathHouse x = house();
        x.pool(1, 10, 8, 0);
        x.club(0, 5, 0, 10, 0);
        x.club(0, 2, 0, 10, 3);
        x.club(1, 192, 0, 10, 0);
        due.is(x.count(0, 5), 1);
        due.is(x.count(1, 5), 6);
        x.club(0, 8, 0, 10, 0);
        due.is(x.count(0, 5), 0);
        x.leave(1);
        due.is(x.count(0, 5), 1);
        x.go(10);
        due.is(x.count(0, 5), 4);
        due.is(x.count(1, 5), 8);
    }

    private static void clubHasMinutesToItsEnd() {
        due.part("has the MINUTES to its end");
        BathHouse x = house();
        x.club(0, 1, 10, 30, 0);
        x.ticket(0, 2, 0, false);
        x.ticket(0, 2, 0, false);
        x.go(10);
        x.in(0);
        due.is(x.told(0, 7), 19);
        x.go(19);
        x.in(1);
        due.is(x.told(0, 7), 0);
        due.is(x.told(1, 7), 0);
        x.go(1);
        due.is(x.told(0, 7), -1);
        due.is(x.told(1, 7), -1);
    }

    private static void refusedClubTakesNoNumber() {
        due.part("5: refused, it takes no number");
        BathHouse x = house();
        due.is(x.club(0, 1, 0, 10, 0), 0);
        due.is(x.club(0, 1, 0, 10, 0), -1);
        due.is(x.club(0, 2, 0, 10, 31), -1);
        due.is(x.all(2), 1);
        due.is(x.ticket(0, 2, 1, false), -1);
        due.is(x.count(0, 5), 3);
        due.is(x.club(0, 2, 0, 10, 0), 1);
    }

    private static void oneLaneInOneMinuteInOnePool() {
        due.part("5: a LANE of another one in a MINUTE");
        int[][] refused = {{1, 10, 20}, {7, 0, 11}, {2, 19, 30}, {4, 0, 1440}, {13, 12, 13}};
        for (int[] r : refused) {
            BathHouse x = house();
            x.club(0, 7, 10, 20, 0);
            due.is(x.club(0, r[0], r[1], r[2], 0), -1);
            due.is(x.clash(), 0);
            due.is(x.all(2), 1);
        }
    }

    private static void anotherLaneIsNoClash() {
        due.part("5: no LANE of another one");
        BathHouse x = house();
        due.is(x.club(0, 5, 10, 20, 0), 0);
        due.is(x.club(0, 10, 10, 20, 0), 1);
        due.is(x.clash(), -1);
    }

    private static void anotherMinuteIsNoClash() {
        due.part("5: no MINUTE of another one");
        BathHouse x = house();
        due.is(x.club(0, 15, 10, 20, 0), 0);
        due.is(x.club(0, 15, 20, 1440, 0), 1);
        due.is(x.club(0, 15, 0, 10, 0), 2);
        due.is(x.clash(), -1);
    }

    private static void anotherPoolIsNoClash() {
        due.part("5: no POOL of another one");
        BathHouse x = house();
        x.pool(1, 10, 4, 0);
        due.is(x.club(0, 15, 0, 1440, 0), 0);
        due.is(x.club(1, 15, 0, 1440, 0), 1);
        due.is(x.clash(), -1);
    }

    private static void clashIsNoneIfNoneWas() {
        due.part("6: NONE if none was");
        BathHouse x = house();
        due.is(x.clash(), -1);
        x.club(0, 1, 0, 10, 0);
        due.is(x.clash(), -1);
        // These have a LANE of club 0 in its MINUTES, but are refused for something else.
        x.club(0, 1, 0, 10, 31);
        x.club(0, 17, 0, 10, 0);
        x.club(0, 1, 0, 1441, 0);
        x.club(0, 1, -1, 10, 0);
        due.is(x.clash(), -1);
    }

    private static void clashIsTheLowestNumber() {
        due.part("6: the CLUB of the lowest number");
        BathHouse x = house();
        x.club(0, 8, 0, 10, 0);
        x.club(0, 1, 20, 30, 0);
        x.club(0, 2, 0, 10, 0);
        x.club(0, 1, 0, 10, 0);
        due.is(x.club(0, 3, 0, 1440, 0), -1);
        due.is(x.clash(), 1);
        due.is(x.club(0, 3, 0, 20, 0), -1);
        due.is(x.clash(), 2);
        due.is(x.club(0, 15, 0, 1440, 0), -1);
        due.is(x.clash(), 0);
    }

    private static void clashIsOfTheLatest() {
        due.part("6: the latest club() that was refused by that");
        BathHouse x = house();
        x.club(0, 1, 0, 10, 0);
        x.club(0, 2, 0, 10, 0);
        x.club(0, 1, 0, 10, 0);
        due.is(x.clash(), 0);
        x.club(0, 2, 0, 10, 0);
        due.is(x.clash(), 1);
        x.club(0, 4, 0, 10, 0);
        x.club(0, 1, 0, 10, 31);
        due.is(x.clash(), 1);
        x.go(5);
        x.leave(1);
        due.is(x.clash(), 1);
        x.club(0, 1, 0, 10, 0);
        due.is(x.clash(), 0);
    }

    private static void leaveNeedsAClub() {
        due.part("7: no such CLUB");
        BathHouse x = house();
        due.is(x.leave(0), false);
        x.club(0, 1, 0, 10, 0);
        for (int c : new int[] {-1, 1, 19, 20, LEAST, MOST}) {
            due.is(x.leave(c), false);
        }
        due.is(x.count(0, 5), 3);
        due.is(x.leave(0), true);
        due.is(x.count(0, 5), 4);
    }

    private static void leaveInItsLastMinute() {
        due.part("7: given up in its last MINUTE");
        BathHouse x = house();
        x.club(0, 1, 0, 10, 0);
        x.ticket(0, 2, 0, false);
        x.go(9);
        due.is(x.may(0), 0);
        due.is(x.leave(0), true);
        due.is(x.may(0), 2);
        due.is(x.count(0, 5), 4);
    }

    private static void leaveWhenItHasEnded() {
        due.part("7: it has ended");
        BathHouse x = house();
        x.club(0, 1, 0, 10, 0);
        x.club(0, 2, 1438, 1440, 0);
        x.go(10);
        due.is(x.leave(0), false);
        step(x, 1429);
        due.is(x.leave(0), false);
        due.is(x.leave(1), true);
    }

    private static void leaveTwice() {
        due.part("7: given up, it has ended");
        BathHouse x = house();
        x.club(0, 1, 0, 10, 0);
        x.club(0, 2, 20, 30, 0);
        x.go(5);
        for (int c = 0; c < 2; c++) {
            due.is(x.leave(c), true);
            due.is(x.leave(c), false);
        }
        x.go(20);
        due.is(x.leave(1), false);
    }

    private static void leaveInItsFirstMinute() {
        due.part("7: given up at its first MINUTE, it ends there");
        BathHouse x = house();
        x.club(0, 1, 10, 20, 0);
        x.ticket(0, 2, 0, false);
        x.go(10);
        due.is(x.leave(0), true);
        due.is(x.in(0), 2);
        due.is(x.club(0, 1, 0, 1440, 0), 1);
    }

    private static void leaveAheadOfItsBeginning() {
        due.part("7: (If it had not begun it is never there.)");
        BathHouse x = house();
        x.club(0, 1, 10, 20, 0);
        x.ticket(0, 2, 0, false);
        x.go(9);
        due.is(x.leave(0), true);
        due.is(x.club(0, 1, 9, 10, 0), 1);
        due.is(x.club(0, 1, 10, 20, 0), 2);
        x.go(1);
        due.is(x.may(0), 2);
        x.leave(2);
        due.is(x.count(0, 5), 4);
        x.go(9);
        due.is(x.may(0), 2);
        due.is(x.club(0, 1, 11, 20, 0), 3);
    }

    private static void leaveFreesTheMinutesFromNowOn() {
        due.part("one that was GIVEN UP at a MINUTE ends there");
        BathHouse x = house();
        x.club(0, 1, 0, 100, 0);
        x.go(50);
        x.leave(0);
        due.is(x.club(0, 1, 49, 51, 0), -1);
        due.is(x.clash(), 0);
        due.is(x.club(0, 1, 50, 51, 0), 1);
    }

    private static void sums() {
        eachSumIsToldByItsNumber();
        sumsAreNoneForOthers();
    }

    private static void eachSumIsToldByItsNumber() {
        due.part("30: 0 to 6");
        BathHouse x = house();
        x.pool(3, 10, 4, 0);
        x.club(0, 1, 0, 10, 0);
        x.club(0, 2, 0, 10, 0);
        for (int t = 0; t < 8; t++) {
            x.ticket(t < 4 ? 0 : 3, t == 3 ? 5 : 1, 15, false);
        }
        x.go(1);
        for (int t = 1; t < 7; t++) {
            x.in(t);
            x.key(t);
        }
        x.go(15);
        x.out(1);
        x.out(2);
        x.out(5);
        int[] want = {16, 8, 2, 3, 60, 3, 3};
        for (int what = 0; what <= 6; what++) {
            due.is(x.all(what), want[what]);
        }
    }

    private static void sumsAreNoneForOthers() {
        due.part("30: NONE for others");
        BathHouse x = house();
        for (int what : new int[] {-1, 7, 8, LEAST, MOST}) {
            due.is(x.all(what), -1);
        }
    }
}

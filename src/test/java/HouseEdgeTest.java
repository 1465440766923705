/** The edges of keys and lockers, of term 5 and of promises 21 to 29: a test for each sentence that names one. */
public final class HouseEdgeTest {
    private static final Due due = new Due("HouseEdgeTest");
    private static final int LEAST = Integer.MIN_VALUE;
    private static final int MOST = Integer.MAX_VALUE;
    private static final int[] NO_POOLS = {-1, 1, 3, 4, 5, LEAST, MOST};

    public static void main(String[] args) {
        keys();
        mends();
        tolds();
        toldMinutes();
        pumps();
        prices();
        turns();
        hours();
        due.end();
    }

    private static void keys() {
        keyIsNoneForWhoIsNotIn();
        keyIsNoneForWhoHasOne();
        keyIsNoneIfThereIsNone();
        keyIsTheLowestAtTheDoor();
        keyIsForEachKind();
        giveIsNoneForWhoHasNone();
        givenKeyIsAtTheDoor();
    }

    private static void mends() {
        lostWithTheBagInIt();
        refusedOutLosesNothing();
        mendIsNoneIfItIsNotLost();
        mendTellsWhoseBagWasInIt();
        mendedKeyIsAtTheDoor();
        lockersAreZeroToTwentyNine();
        lockerTellsItsState();
        whoLostOneTakesAnother();
    }

    private static void tolds() {
        toldIsNoneForNoTicket();
        toldIsNoneForOthers();
        toldOfANewTicket();
        toldPoolAndKind();
        toldLatestMinute();
        toldLocker();
        toldOwedInAll();
        toldHowOften();
    }

    private static void toldMinutes() {
        minutesBehindThisOne();
        minutesBelowZero();
        minutesOfWhoIsNotIn();
        minutesOfOthers();
        minutesOfWhoCameInAgain();
        minutesOfAGivenUpClub();
    }

    private static void pumps() {
        pumpNeedsAPool();
        volumeIsOneToHundredThousand();
        flowIsOneToTenThousand();
        latestPumpCounts();
    }

    private static void prices() {
        priceNeedsAnHour();
        priceIsZeroToTenThousand();
    }

    private static void turns() {
        turnNeedsAPool();
        turnNeedsAPump();
        turnHeadsAreZeroToThousand();
        turnIsTheFewestHours();
        turnIsNotCut();
        turnIsTwentyFiveForMore();
        turnOfTheLargestNumbers();
    }

    private static void hours() {
        hourIsNoneAheadOfAny();
        hourIsNoneForOthers();
        hourIsOfTheLatestTurn();
        hourIsNotOfARefusedTurn();
        leastSumIsTaken();
        earlierOfLikeOnes();
        allHoursAreTaken();
        sumOfPricesOfThatTurn();
    }

    private static BathHouse house() {
        BathHouse x = new BathHouse();
        x.pool(0, 200, 4, 0);
        return x;
    }

    /** So many DAYs, who are in. */
    private static BathHouse inside(int days) {
        BathHouse x = house();
        for (int t = 0; t < days; t++) {
            x.ticket(0, 0, 0, false);
            x.in(t);
            if (t % 3 == 2) {
                x.go(1);
            }
        }
        return x;
    }

    private static void step(BathHouse x, int minutes) {
        for (int left = minutes; left > 0; left -= 240) {
            x.go(Math.min(left, 240));
        }
    }

    private static void keyIsNoneForWhoIsNotIn() {
        due.part("21: NONE: it is not in");
        BathHouse x = house();
        x.ticket(0, 0, 0, false);
        due.is(x.key(0), -1);
        for (int t : new int[] {-1, 1, 199, 200, LEAST, MOST}) {
            due.is(x.key(t), -1);
        }
        x.in(0);
        x.out(0);
        due.is(x.key(0), -1);
        due.is(x.all(6), 0);
        due.is(x.locker(0), -1);
    }

    private static void keyIsNoneForWhoHasOne() {
        due.part("21: NONE: has one");
        BathHouse x = inside(1);
        due.is(x.key(0), 0);
        due.is(x.key(0), -1);
        due.is(x.all(6), 1);
        due.is(x.locker(1), -1);
        due.is(x.told(0, 4), 0);
    }

    private static void keyIsNoneIfThereIsNone() {
        due.part("21: NONE: or there is none");
        BathHouse x = inside(31);
        for (int t = 0; t < 30; t++) {
            due.is(x.key(t), t);
        }
        due.is(x.key(30), -1);
        due.is(x.told(30, 4), -1);
        // A LOST one is not at the door.
        x.out(29);
        due.is(x.key(30), -1);
        due.is(x.all(6), 29);
        due.is(x.mend(29), 29);
        due.is(x.key(30), 29);
    }

    private static void keyIsTheLowestAtTheDoor() {
        due.part("KEYS: takes the lowest that has its KEY at the door");
        BathHouse x = inside(5);
        for (int t = 0; t < 4; t++) {
            x.key(t);
        }
        x.out(0);
        x.give(2);
        x.give(1);
        due.is(x.key(4), 1);
        due.is(x.key(2), 2);
        due.is(x.key(1), 4);
    }

    private static void keyIsForEachKind() {
        due.part("KEYS: a TICKET that is in");
        BathHouse x = house();
        x.club(0, 1, 0, 10, 0);
        x.club(0, 2, 0, 10, 1);
        int[] a = {0, 15, 0, 1, 0, 0};
        for (int kind = 0; kind <= 5; kind++) {
            x.ticket(0, kind, a[kind], true);
            x.in(kind);
            x.go(1);
            due.is(x.key(kind), kind);
        }
    }

    private static void giveIsNoneForWhoHasNone() {
        due.part("22: NONE: it has none");
        BathHouse x = inside(2);
        due.is(x.give(0), -1);
        x.key(0);
        due.is(x.give(1), -1);
        for (int t : new int[] {-1, 2, 199, 200, LEAST, MOST}) {
            due.is(x.give(t), -1);
        }
        due.is(x.locker(0), 0);
        due.is(x.give(0), 0);
        due.is(x.give(0), -1);
        x.key(0);
        x.out(0);
        // It went out with it: the LOCKER is LOST, and can't be given back.
        due.is(x.give(0), -1);
        due.is(x.locker(0), -2);
        x.in(0);
        due.is(x.give(0), -1);
        due.is(x.locker(0), -2);
    }

    private static void givenKeyIsAtTheDoor() {
        due.part("KEYS: it gives it back");
        BathHouse x = inside(2);
        x.key(0);
        due.is(x.all(6), 1);
        due.is(x.give(0), 0);
        due.is(x.all(6), 0);
        due.is(x.locker(0), -1);
        due.is(x.told(0, 4), -1);
        due.is(x.key(1), 0);
        x.out(0);
        due.is(x.all(3), 0);
    }

    private static void lostWithTheBagInIt() {
        due.part("KEYS: or goes out with it: then the LOCKER is LOST");
        BathHouse x = inside(3);
        x.key(0);
        x.key(1);
        x.out(1);
        due.is(x.locker(1), -2);
        due.is(x.all(3), 1);
        due.is(x.all(6), 1);
        due.is(x.told(1, 4), -1);
        // Without a KEY nothing is LOST.
        x.out(2);
        due.is(x.all(3), 1);
        due.is(x.locker(0), 0);
    }

    private static void refusedOutLosesNothing() {
        due.part("10: -2 leaves its KEY");
        BathHouse x = inside(4);
        x.key(3);
        x.go(1);
        for (int t = 0; t < 3; t++) {
            x.out(t);
        }
        due.is(x.out(3), -2);
        due.is(x.locker(0), 3);
        due.is(x.told(3, 4), 0);
        due.is(x.all(3), 0);
        due.is(x.give(3), 0);
    }

    private static void mendIsNoneIfItIsNotLost() {
        due.part("23: NONE: it is not LOST");
        BathHouse x = inside(1);
        for (int l : new int[] {-1, 0, 29, 30, 31, LEAST, MOST}) {
            due.is(x.mend(l), -1);
        }
        x.key(0);
        due.is(x.mend(0), -1);
        due.is(x.locker(0), 0);
        due.is(x.told(0, 4), 0);
        x.give(0);
        due.is(x.mend(0), -1);
    }

    private static void mendTellsWhoseBagWasInIt() {
        due.part("23: the TICKET whose bag was in it");
        BathHouse x = inside(3);
        due.is(x.key(2), 0);
        due.is(x.key(1), 1);
        x.out(2);
        x.out(1);
        due.is(x.mend(1), 1);
        due.is(x.mend(0), 2);
        due.is(x.mend(0), -1);
    }

    private static void mendedKeyIsAtTheDoor() {
        due.part("23: its KEY is at the door");
        BathHouse x = inside(2);
        x.key(0);
        x.out(0);
        due.is(x.mend(0), 0);
        due.is(x.locker(0), -1);
        due.is(x.all(3), 0);
        due.is(x.all(6), 0);
        due.is(x.key(1), 0);
        due.is(x.locker(0), 1);
        due.is(x.mend(0), -1);
    }

    private static void lockersAreZeroToTwentyNine() {
        due.part("24: -3: no such LOCKER");
        BathHouse x = house();
        for (int l : new int[] {-1, 30, 31, LEAST, MOST}) {
            due.is(x.locker(l), -3);
        }
        for (int l = 0; l < 30; l++) {
            due.is(x.locker(l), -1);
        }
    }

    private static void lockerTellsItsState() {
        due.part("24: at the door; the TICKET; LOST");
        BathHouse x = inside(8);
        due.is(x.key(7), 0);
        due.is(x.locker(0), 7);
        x.out(7);
        due.is(x.locker(0), -2);
        x.mend(0);
        due.is(x.locker(0), -1);
    }

    private static void whoLostOneTakesAnother() {
        due.part("KEYS: that has none takes another, with the first LOST still");
        BathHouse x = inside(1);
        x.key(0);
        x.out(0);
        x.in(0);
        due.is(x.told(0, 4), -1);
        due.is(x.key(0), 1);
        due.is(x.mend(0), 0);
        due.is(x.locker(1), 0);
        due.is(x.told(0, 4), 1);
        due.is(x.give(0), 1);
    }

    private static void toldIsNoneForNoTicket() {
        due.part("25: no such TICKET");
        BathHouse x = inside(1);
        for (int t : new int[] {-1, 1, 199, 200, LEAST, MOST}) {
            for (int what = -1; what <= 8; what++) {
                due.is(x.told(t, what), -1);
            }
        }
    }

    private static void toldIsNoneForOthers() {
        due.part("25: NONE for others");
        BathHouse x = inside(1);
        for (int what : new int[] {-1, 8, 9, LEAST, MOST}) {
            due.is(x.told(0, what), -1);
        }
    }

    private static void toldOfANewTicket() {
        due.part("25: (NONE) of one that never came in");
        BathHouse x = house();
        x.club(0, 1, 0, 10, 0);
        x.club(0, 2, 0, 10, 1);
        int[] a = {0, 15, 0, 1, 0, 0};
        x.go(3);
        for (int kind = 0; kind <= 5; kind++) {
            x.ticket(0, kind, a[kind], true);
            int[] want = {0, kind, -1, 0, -1, 0, 0, 0};
            for (int what = 0; what <= 7; what++) {
                due.is(x.told(kind, what), want[what]);
            }
        }
    }

    private static void toldPoolAndKind() {
        due.part("25: 0 POOL, 1 KIND");
        BathHouse x = new BathHouse();
        for (int p = 0; p <= 3; p++) {
            x.pool(p, 10, 4, 0);
        }
        for (int p = 0; p <= 3; p++) {
            x.ticket(p, p + 1 == 3 || p + 1 == 2 ? 5 : p + 1, 15, false);
            due.is(x.told(p, 0), p);
        }
        due.is(x.told(0, 1), 1);
        due.is(x.told(3, 1), 4);
    }

    private static void toldLatestMinute() {
        due.part("25: 2 the MINUTE in which it came in last");
        BathHouse x = inside(1);
        due.is(x.told(0, 2), 0);
        x.go(5);
        due.is(x.in(0), 1);
        due.is(x.told(0, 2), 0);
        x.out(0);
        due.is(x.told(0, 2), 0);
        x.in(0);
        due.is(x.told(0, 2), 5);
        step(x, 1434);
        x.out(0);
        x.hand(0);
        due.is(x.told(0, 2), 5);
    }

    private static void toldLocker() {
        due.part("25: 4 its LOCKER (NONE)");
        BathHouse x = inside(2);
        x.key(1);
        due.is(x.told(1, 4), 0);
        due.is(x.told(0, 4), -1);
        x.key(0);
        due.is(x.told(0, 4), 1);
        x.give(1);
        due.is(x.told(1, 4), -1);
    }

    private static void toldOwedInAll() {
        due.part("25: 5 coins that it has come to OWE in all");
        BathHouse x = house();
        x.ticket(0, 1, 15, false);
        x.ticket(0, 1, 15, false);
        x.in(0);
        x.in(1);
        x.go(15);
        x.out(0);
        x.in(0);
        x.go(30);
        x.out(0);
        x.in(0);
        x.out(0);
        due.is(x.told(0, 5), 60);
        due.is(x.out(1), 60);
        due.is(x.told(1, 5), 60);
        due.is(x.all(4), 120);
    }

    private static void toldHowOften() {
        due.part("25: 6 how often it came in");
        BathHouse x = house();
        x.ticket(0, 0, 0, false);
        for (int times = 0; times < 5; times++) {
            due.is(x.told(0, 6), times);
            x.in(0);
            x.in(0);
            due.is(x.told(0, 6), times + 1);
            x.out(0);
            x.go(1);
        }
    }

    private static BathHouse timed() {
        BathHouse x = house();
        x.club(0, 1, 0, 20, 0);
        x.club(0, 2, 0, 20, 1);
        x.ticket(0, 1, 20, false);
        x.ticket(0, 2, 0, false);
        x.ticket(0, 3, 1, true);
        x.ticket(0, 3, 1, false);
        return x;
    }

    private static void minutesBehindThisOne() {
        due.part("25: 7 MINUTES that it still has behind this one");
        BathHouse x = timed();
        for (int t = 0; t < 3; t++) {
            x.in(t);
            due.is(x.told(t, 7), 19);
        }
        x.go(1);
        x.in(3);
        for (int t = 0; t < 4; t++) {
            due.is(x.told(t, 7), 18);
        }
        x.go(18);
        for (int t = 0; t < 4; t++) {
            due.is(x.told(t, 7), 0);
        }
    }

    private static void minutesBelowZero() {
        due.part("25: 7: below 0 when it is beyond (7 can be that)");
        BathHouse x = timed();
        for (int t = 0; t < 3; t++) {
            x.in(t);
        }
        x.go(1);
        x.in(3);
        x.go(19);
        for (int t = 0; t < 4; t++) {
            due.is(x.told(t, 7), -1);
        }
        step(x, 1419);
        for (int t = 0; t < 4; t++) {
            due.is(x.told(t, 7), -1420);
        }
    }

    private static void minutesOfWhoIsNotIn() {
        due.part("25: 7: that are in; else 0");
        BathHouse x = timed();
        for (int t = 0; t < 3; t++) {
            due.is(x.told(t, 7), 0);
            x.in(t);
        }
        x.go(30);
        for (int t = 0; t < 3; t++) {
            x.out(t);
            due.is(x.told(t, 7), 0);
        }
        due.is(x.told(3, 7), 0);
    }

    private static void minutesOfOthers() {
        due.part("25: 7: HOUR, CLUB, SCHOOL; else 0");
        BathHouse x = house();
        int[] kinds = {0, 4, 5};
        for (int t = 0; t < 3; t++) {
            x.ticket(0, kinds[t], 15, true);
            x.in(t);
            due.is(x.told(t, 7), 0);
        }
        x.go(100);
        for (int t = 0; t < 3; t++) {
            due.is(x.told(t, 7), 0);
        }
    }

    private static void minutesOfWhoCameInAgain() {
        due.part("25: 7 of one that came in again");
        BathHouse x = timed();
        x.in(0);
        x.in(1);
        x.go(10);
        x.out(0);
        x.out(1);
        x.in(0);
        x.in(1);
        due.is(x.told(0, 7), 19);
        due.is(x.told(1, 7), 9);
    }

    private static void minutesOfAGivenUpClub() {
        due.part("25: 7 when its CLUB is GIVEN UP");
        BathHouse x = timed();
        for (int t = 1; t < 4; t++) {
            x.in(t);
        }
        x.leave(0);
        x.leave(1);
        for (int t = 1; t < 4; t++) {
            due.is(x.told(t, 7), 19);
        }
        x.go(20);
        for (int t = 1; t < 4; t++) {
            due.is(x.told(t, 7), -1);
            due.is(x.out(t), 20);
        }
    }

    private static void pumpNeedsAPool() {
        due.part("26: no such POOL");
        BathHouse x = house();
        for (int p : NO_POOLS) {
            due.is(x.pump(p, 10, 10), false);
            due.is(x.turn(p, 0), -1);
        }
        due.is(x.turn(0, 0), -1);
        due.is(x.pump(0, 10, 10), true);
        due.is(x.turn(0, 0), 1);
    }

    private static void volumeIsOneToHundredThousand() {
        due.part("26: VOLUME (1 to 100000)");
        BathHouse x = house();
        for (int volume : new int[] {0, -1, 100001, LEAST, MOST}) {
            due.is(x.pump(0, volume, 10000), false);
        }
        due.is(x.turn(0, 0), -1);
        due.is(x.pump(0, 100000, 10000), true);
        due.is(x.turn(0, 0), 10);
        due.is(x.pump(0, 1, 10000), true);
        due.is(x.turn(0, 0), 1);
    }

    private static void flowIsOneToTenThousand() {
        due.part("26: FLOW an hour (1 to 10000)");
        BathHouse x = house();
        for (int flow : new int[] {0, -1, 10001, LEAST, MOST}) {
            due.is(x.pump(0, 20, flow), false);
        }
        due.is(x.turn(0, 0), -1);
        due.is(x.pump(0, 20, 1), true);
        due.is(x.turn(0, 0), 20);
        due.is(x.pump(0, 20000, 10000), true);
        due.is(x.turn(0, 0), 2);
    }

    private static void latestPumpCounts() {
        due.part("26: THE PUMP of POOL p");
        BathHouse x = house();
        x.pool(1, 10, 4, 0);
        x.pump(0, 10, 1);
        x.pump(1, 7, 1);
        due.is(x.turn(0, 0), 10);
        due.is(x.turn(1, 0), 7);
        x.pump(0, 5, 1);
        due.is(x.turn(0, 0), 5);
        due.is(x.turn(1, 0), 7);
        due.is(x.pump(0, 0, 1), false);
        due.is(x.pump(0, 3, 0), false);
        due.is(x.turn(0, 0), 5);
    }

    private static void priceNeedsAnHour() {
        due.part("27: an hour (0 to 23)");
        BathHouse x = house();
        x.pump(0, 24, 1);
        for (int hour : new int[] {-1, 24, 25, LEAST, MOST}) {
            due.is(x.price(hour, 5), false);
        }
        x.turn(0, 0);
        due.is(x.hour(24), 24);
        int sum = 24;
        for (int hour = 0; hour <= 23; hour++) {
            due.is(x.price(hour, 5), true);
            sum += 4;
            x.turn(0, 0);
            due.is(x.hour(24), sum);
        }
    }

    private static void priceIsZeroToTenThousand() {
        due.part("27: 0 to 10000");
        BathHouse x = house();
        x.pump(0, 24, 1);
        for (int coins : new int[] {-1, 10001, LEAST, MOST}) {
            due.is(x.price(0, coins), false);
        }
        x.turn(0, 0);
        due.is(x.hour(24), 24);
        due.is(x.price(0, 0), true);
        x.turn(0, 0);
        due.is(x.hour(24), 23);
        due.is(x.price(0, 10000), true);
        x.turn(0, 0);
        due.is(x.hour(24), 10023);
    }

    private static void turnNeedsAPool() {
        due.part("28: NONE: no such POOL");
        BathHouse x = house();
        x.pump(0, 1, 1);
        for (int p : NO_POOLS) {
            due.is(x.turn(p, 0), -1);
        }
        due.is(x.hour(0), -1);
    }

    private static void turnNeedsAPump() {
        due.part("28: NONE: it has no pump");
        BathHouse x = house();
        x.pool(1, 10, 4, 0);
        x.pump(0, 1, 1);
        due.is(x.turn(1, 0), -1);
        x.pump(1, 0, 1);
        x.pump(1, 1, 0);
        due.is(x.turn(1, 0), -1);
        due.is(x.turn(0, 0), 1);
    }

    private static void turnHeadsAreZeroToThousand() {
        due.part("28: heads (0 to 1000)");
        BathHouse x = house();
        x.pump(0, 1, 1);
        for (int heads : new int[] {-1, -100, -101, 1001, LEAST, MOST}) {
            due.is(x.turn(0, heads), -1);
        }
        due.is(x.hour(0), -1);
        due.is(x.turn(0, 0), 1);
        due.is(x.turn(0, 1000), 11);
    }

    private static void turnIsTheFewestHours() {
        due.part("PUMP: the fewest whole ones with which FLOW times hours is not below");
        BathHouse x = house();
        x.pump(0, 100, 25);
        due.is(x.turn(0, 0), 4);
        due.is(x.turn(0, 25), 5);
        due.is(x.turn(0, 26), 6);
        x.pump(0, 99, 25);
        due.is(x.turn(0, 0), 4);
        x.pump(0, 101, 25);
        due.is(x.turn(0, 0), 5);
        x.pump(0, 1, 10000);
        due.is(x.turn(0, 0), 1);
    }

    private static void turnIsNotCut() {
        due.part("PUMP: VOLUME times (100 + heads) / 100");
        BathHouse x = house();
        x.pump(0, 1, 1);
        // 1.01 are above 1.
        due.is(x.turn(0, 1), 2);
        due.is(x.turn(0, 99), 2);
        due.is(x.turn(0, 100), 2);
        x.pump(0, 30, 3);
        due.is(x.turn(0, 3), 11);
        x.pump(0, 3, 4);
        due.is(x.turn(0, 33), 1);
        due.is(x.turn(0, 34), 2);
    }

    private static void turnIsTwentyFiveForMore() {
        due.part("28: 25: more than 24");
        BathHouse x = house();
        x.pump(0, 24, 1);
        due.is(x.turn(0, 0), 24);
        due.is(x.turn(0, 1), 25);
        due.is(x.turn(0, 1000), 25);
        x.pump(0, 25, 1);
        due.is(x.turn(0, 0), 25);
        x.pump(0, 12, 1);
        due.is(x.turn(0, 100), 24);
        due.is(x.turn(0, 101), 25);
    }

    private static void turnOfTheLargestNumbers() {
        due.part("28: the largest numbers");
        BathHouse x = house();
        x.pump(0, 100000, 10000);
        due.is(x.turn(0, 0), 10);
        due.is(x.turn(0, 140), 24);
        due.is(x.turn(0, 141), 25);
        due.is(x.turn(0, 1000), 25);
        x.pump(0, 100000, 1);
        due.is(x.turn(0, 1000), 25);
    }

    private static void taken(BathHouse x, String hours, int sum) {
        for (int h = 0; h < 24; h++) {
            due.is(x.hour(h), h < hours.length() && hours.charAt(h) == '1' ? 1 : 0);
        }
        due.is(x.hour(24), sum);
    }

    private static void hourIsNoneAheadOfAny() {
        due.part("29: NONE ahead of any");
        BathHouse x = house();
        x.pump(0, 100, 1);
        x.turn(0, 0);
        x.turn(0, -1);
        for (int what = -1; what <= 25; what++) {
            due.is(x.hour(what), -1);
        }
    }

    private static void hourIsNoneForOthers() {
        due.part("29: NONE for others");
        BathHouse x = house();
        x.pump(0, 24, 1);
        x.turn(0, 0);
        for (int what : new int[] {-1, 25, 26, LEAST, MOST}) {
            due.is(x.hour(what), -1);
        }
        due.is(x.hour(0), 1);
        due.is(x.hour(23), 1);
    }

    private static void hourIsOfTheLatestTurn() {
        due.part("29: of the latest turn() that was 0 to 24");
        BathHouse x = house();
        x.pump(0, 3, 1);
        x.turn(0, 0);
        taken(x, "111", 3);
        x.pump(0, 1, 1);
        taken(x, "111", 3);
        x.turn(0, 0);
        taken(x, "1", 1);
        x.pool(1, 10, 4, 0);
        x.pump(1, 24, 1);
        x.turn(1, 0);
        taken(x, "111111111111111111111111", 24);
    }

    private static void hourIsNotOfARefusedTurn() {
        due.part("29: not of one that was 25 or NONE");
        BathHouse x = house();
        x.pump(0, 2, 1);
        x.turn(0, 0);
        x.price(0, 5);
        due.is(x.turn(0, 1001), -1);
        due.is(x.turn(1, 0), -1);
        taken(x, "11", 2);
        x.pump(0, 100, 1);
        due.is(x.turn(0, 0), 25);
        taken(x, "11", 2);
    }

    private static void leastSumIsTaken() {
        due.part("PUMP: the one of the least sum");
        BathHouse x = house();
        for (int hour = 0; hour < 24; hour++) {
            x.price(hour, 10000 - hour);
        }
        x.pump(0, 2, 1);
        x.turn(0, 0);
        taken(x, "000000000000000000000011", 19955);
        x.price(5, 0);
        x.turn(0, 0);
        taken(x, "000001000000000000000001", 9977);
    }

    private static void earlierOfLikeOnes() {
        due.part("PUMP: of like ones that which takes earlier hours");
        BathHouse x = house();
        x.pump(0, 3, 1);
        x.turn(0, 0);
        taken(x, "111", 3);
        x.price(1, 2);
        x.turn(0, 0);
        taken(x, "1011", 3);
        x.price(0, 2);
        x.price(23, 0);
        x.turn(0, 0);
        taken(x, "001100000000000000000001", 2);
        for (int hour = 2; hour < 23; hour++) {
            x.price(hour, 2);
        }
        x.turn(0, 0);
        taken(x, "110000000000000000000001", 4);
    }

    private static void allHoursAreTaken() {
        due.part("29: all 24 hours");
        BathHouse x = house();
        x.pump(0, 24, 1);
        for (int hour = 0; hour < 24; hour++) {
            x.price(hour, 10000);
        }
        due.is(x.turn(0, 0), 24);
        taken(x, "111111111111111111111111", 240000);
    }

    private static void sumOfPricesOfThatTurn() {
        due.part("29: 24: the sum of PRICES");
        BathHouse x = house();
        x.pump(0, 2, 1);
        x.price(0, 7);
        x.price(2, 0);
        x.turn(0, 0);
        taken(x, "011", 1);
        x.price(1, 50);
        x.price(2, 60);
        taken(x, "011", 1);
    }
}

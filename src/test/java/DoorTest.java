/** Promises 8 to 13: may, in, out, the eye, counts by hand and what is told of a pool. */
public final class DoorTest {
    private static final Due due = new Due("DoorTest");

    public static void main(String[] args) {
        mayNoSuch();
        mayInOrder();
        maySeason();
        mayClub();
        mayFull();
        maySchool();
        mayWatcher();
        mayChangesNothing();
        doorLimit();
        outLimit();
        outOwes();
        outOwesClub();
        outOfGivenUpClub();
        eyes();
        spanSeen();
        spanOff();
        spanLeastNotBelowZero();
        spanOffForNoTime();
        handCounts();
        handInItsMinute();
        handWhileOff();
        counts();
        due.end();
    }

    private static BathHouse house(int heads, int days) {
        BathHouse x = new BathHouse();
        x.pool(0, heads, 4, 0);
        for (int t = 0; t < days; t++) {
            x.ticket(0, 0, 0, false);
        }
        return x;
    }

    private static void span(BathHouse x, int least, int most) {
        due.is(x.count(0, 0), least);
        due.is(x.count(0, 1), most);
    }

    private static void mayNoSuch() {
        due.part("promises 8, 9, 10: no such");
        BathHouse x = house(10, 1);
        int[] none = {-1, 1, 199, 200, Integer.MAX_VALUE, Integer.MIN_VALUE};
        for (int t : none) {
            due.is(x.may(t), -1);
            due.is(x.in(t), -1);
            due.is(x.out(t), -1);
        }
        due.is(x.out(0), -1);
        due.is(x.in(0), 0);
        due.is(x.out(0), 0);
        due.is(x.out(0), -1);
    }

    private static void mayInOrder() {
        due.part("promise 8: the first of them");
        BathHouse x = new BathHouse();
        x.pool(0, 3, 4, 0);
        x.club(0, 1, 0, 10, 1);
        for (int t = 0; t < 3; t++) {
            x.ticket(0, 0, 0, false);
        }
        x.ticket(0, 3, 0, false);
        x.ticket(0, 3, 0, true);
        due.is(x.may(3), 5);
        for (int t = 0; t < 3; t++) {
            x.in(t);
        }
        due.is(x.may(3), 4);
        due.is(x.put(0, 5), true);
        due.is(x.may(3), 3);
        due.is(x.may(0), 1);
        due.is(x.leave(0), true);
        due.is(x.may(3), 2);
        due.is(x.may(4), 2);
        due.is(x.in(3), 2);
        due.is(x.told(3, 6), 0);
    }

    private static void maySeason() {
        due.part("promise 8: season");
        BathHouse x = new BathHouse();
        x.pool(0, 10, 4, 0);
        x.ticket(0, 4, 0, false);
        due.is(x.may(0), 0);
        due.is(x.in(0), 0);
        due.is(x.may(0), 1);
        due.is(x.out(0), 0);
        due.is(x.may(0), 2);
        x.put(0, 1);
        due.is(x.may(0), 2);
        x.go(240);
        due.is(x.in(0), 2);
    }

    private static void mayClub() {
        due.part("promise 8: club");
        BathHouse x = new BathHouse();
        x.pool(0, 10, 4, 0);
        x.club(0, 1, 5, 10, 0);
        x.ticket(0, 2, 0, false);
        x.ticket(0, 2, 0, false);
        due.is(x.may(0), 2);
        x.go(4);
        due.is(x.may(0), 2);
        x.go(1);
        due.is(x.may(0), 0);
        due.is(x.in(0), 0);
        due.is(x.out(0), 0);
        due.is(x.in(0), 0);
        x.go(4);
        due.is(x.may(1), 0);
        x.go(1);
        due.is(x.may(1), 2);
        due.is(x.may(0), 1);
    }

    private static void mayFull() {
        due.part("promise 8: heads");
        BathHouse x = house(5, 8);
        due.is(x.eye(0, false), true);
        due.is(x.may(0), 0);
        x.go(1);
        // The span may be 0 to 6 then, though nobody came.
        due.is(x.may(0), 4);
        due.is(x.hand(0), 0);
        due.is(x.eye(0, true), true);
        due.is(x.may(0), 0);
        due.is(x.in(0), 0);
        x.go(1);
        due.is(x.may(1), 0);
        due.is(x.in(1), 0);
        span(x, 1, 4);
        due.is(x.in(2), 0);
        due.is(x.in(3), 4);
        due.is(x.out(0), 0);
        due.is(x.in(3), 0);
    }

    private static void maySchool() {
        due.part("promise 8: school");
        BathHouse x = new BathHouse();
        x.pool(0, 50, 4, 0);
        x.club(0, 1, 0, 100, 2);
        x.club(0, 2, 0, 100, 1);
        x.ticket(0, 3, 0, true);
        x.ticket(0, 3, 0, true);
        x.ticket(0, 3, 1, true);
        for (int t = 3; t < 9; t++) {
            x.ticket(0, 3, 0, false);
        }
        due.is(x.may(3), 5);
        due.is(x.in(2), 0);
        due.is(x.in(3), 5);
        due.is(x.in(0), 0);
        due.is(x.in(3), 0);
        x.go(1);
        due.is(x.in(4), 0);
        due.is(x.in(5), 5);
        due.is(x.in(1), 0);
        due.is(x.in(5), 0);
        // Three came in by the door, yet the first reason is told.
        due.is(x.in(6), 6);
        x.go(1);
        due.is(x.in(6), 0);
        due.is(x.in(7), 5);
        due.is(x.out(0), 0);
        due.is(x.may(7), 5);
        due.is(x.out(3), 0);
        due.is(x.out(4), 0);
        due.is(x.may(7), 5);
        x.go(1);
        due.is(x.out(5), 0);
        due.is(x.may(7), 0);
        due.is(x.in(7), 0);
        due.is(x.may(8), 5);
        schoolWithoutTeacher();
    }

    private static void schoolWithoutTeacher() {
        BathHouse x = new BathHouse();
        x.pool(0, 50, 4, 0);
        x.club(0, 1, 0, 100, 1);
        x.ticket(0, 3, 0, true);
        x.ticket(0, 3, 0, false);
        x.ticket(0, 3, 0, false);
        due.is(x.in(0), 0);
        due.is(x.out(0), 0);
        due.is(x.in(1), 5);
        x.go(1);
        due.is(x.in(0), 0);
        due.is(x.in(1), 0);
        due.is(x.may(2), 5);
        due.is(x.out(1), 0);
        due.is(x.may(2), 0);
        due.is(x.out(0), 0);
        due.is(x.may(2), 5);
    }

    private static void mayWatcher() {
        due.part("promise 8: watcher");
        BathHouse x = new BathHouse();
        x.pool(0, 1, 4, 1);
        x.ticket(0, 0, 0, false);
        for (int t = 1; t < 6; t++) {
            x.ticket(0, 5, 0, false);
        }
        due.is(x.may(0), 3);
        due.is(x.in(1), 0);
        due.is(x.in(1), 1);
        due.is(x.post(0, 0, 1), -1);
        due.is(x.may(0), 4);
        due.is(x.put(0, 9), true);
        due.is(x.in(2), 0);
        due.is(x.in(3), 0);
        due.is(x.in(4), 6);
        due.is(x.out(2), 0);
        due.is(x.in(2), 6);
        x.go(1);
        due.is(x.in(2), 0);
        due.is(x.count(0, 2), 3);
        due.is(x.count(0, 3), 3);
    }

    private static void mayChangesNothing() {
        due.part("promises 8 and 9: what is refused");
        BathHouse x = house(50, 6);
        for (int i = 0; i < 9; i++) {
            due.is(x.may(0), 0);
        }
        due.is(x.in(0), 0);
        due.is(x.in(0), 1);
        due.is(x.in(0), 1);
        due.is(x.told(0, 6), 1);
        due.is(x.told(0, 2), 0);
        x.go(3);
        due.is(x.in(0), 1);
        due.is(x.told(0, 2), 0);
        due.is(x.count(0, 2), 1);
        span(x, 1, 1);
        due.is(x.in(1), 0);
        due.is(x.in(2), 0);
        due.is(x.in(3), 0);
        due.is(x.in(4), 6);
        due.is(x.told(4, 3), 0);
        due.is(x.told(4, 2), -1);
    }

    private static void doorLimit() {
        due.part("promise 9: three in a minute by one door");
        BathHouse x = house(50, 5);
        x.pool(1, 50, 4, 0);
        x.ticket(1, 0, 0, false);
        due.is(x.in(0), 0);
        due.is(x.in(1), 0);
        due.is(x.out(0), 0);
        due.is(x.in(0), 0);
        due.is(x.in(2), 6);
        // Neither a count nor the eye opens the door again.
        due.is(x.hand(0), 2);
        due.is(x.in(2), 6);
        due.is(x.eye(0, false), true);
        due.is(x.in(2), 6);
        due.is(x.in(5), 0);
        x.go(1);
        due.is(x.in(2), 0);
        due.is(x.in(3), 0);
        due.is(x.in(4), 0);
        due.is(x.may(4), 1);
    }

    private static void outLimit() {
        due.part("promise 10: three out in a minute by one door");
        BathHouse x = house(50, 4);
        for (int t = 0; t < 3; t++) {
            x.in(t);
        }
        x.go(1);
        x.in(3);
        for (int t = 0; t < 3; t++) {
            due.is(x.out(t), 0);
        }
        due.is(x.out(3), -2);
        due.is(x.out(0), -1);
        due.is(x.hand(0), 1);
        due.is(x.out(3), -2);
        due.is(x.told(3, 3), 1);
        due.is(x.in(0), 0);
        due.is(x.out(0), -2);
        x.go(1);
        due.is(x.out(3), 0);
        due.is(x.count(0, 2), 1);
    }

    private static void outOwes() {
        due.part("promise 10: what is owed");
        int[] stays = {0, 19, 20, 34, 35, 49, 50, 240};
        int[] coins = {0, 0, 20, 20, 40, 40, 60, 300};
        for (int i = 0; i < stays.length; i++) {
            BathHouse x = new BathHouse();
            x.pool(0, 10, 4, 0);
            x.ticket(0, 1, 20, false);
            x.ticket(0, 0, 20, false);
            x.ticket(0, 4, 20, false);
            x.go(7);
            for (int t = 0; t < 3; t++) {
                due.is(x.in(t), 0);
            }
            if (stays[i] > 0) {
                x.go(stays[i]);
            }
            due.is(x.out(0), coins[i]);
            due.is(x.out(1), 0);
            due.is(x.out(2), 0);
            due.is(x.told(0, 5), coins[i]);
            due.is(x.all(4), coins[i]);
        }
    }

    private static void outOwesClub() {
        due.part("promise 10: clubs and schools");
        BathHouse x = new BathHouse();
        x.pool(0, 10, 4, 0);
        x.club(0, 1, 0, 30, 0);
        x.club(0, 2, 0, 30, 1);
        x.club(0, 4, 0, 300, 0);
        x.ticket(0, 2, 0, false);
        x.ticket(0, 3, 1, true);
        x.ticket(0, 3, 1, false);
        x.ticket(0, 2, 2, false);
        x.go(20);
        due.is(x.in(0), 0);
        due.is(x.in(1), 0);
        due.is(x.in(2), 0);
        due.is(x.told(0, 7), 9);
        x.go(9);
        due.is(x.in(3), 0);
        due.is(x.out(0), 0);
        due.is(x.in(0), 0);
        x.go(1);
        due.is(x.out(0), 20);
        x.go(14);
        due.is(x.out(1), 20);
        x.go(1);
        due.is(x.out(2), 40);
        due.is(x.out(3), 0);
    }

    private static void outOfGivenUpClub() {
        due.part("promise 10: a club given up");
        BathHouse x = new BathHouse();
        x.pool(0, 10, 4, 0);
        x.club(0, 1, 10, 40, 0);
        x.club(0, 2, 10, 40, 1);
        x.ticket(0, 2, 0, false);
        x.ticket(0, 3, 1, true);
        x.ticket(0, 3, 1, false);
        x.go(20);
        due.is(x.in(0), 0);
        due.is(x.in(1), 0);
        due.is(x.in(2), 0);
        x.go(5);
        due.is(x.leave(0), true);
        due.is(x.leave(1), true);
        // They came in with 20 minutes, and keep them.
        x.go(14);
        due.is(x.out(0), 0);
        due.is(x.in(0), 2);
        x.go(1);
        due.is(x.out(1), 20);
        x.go(15);
        due.is(x.out(2), 40);
    }

    private static void eyes() {
        due.part("promise 11");
        BathHouse x = house(10, 0);
        due.is(x.eye(-1, false), false);
        due.is(x.eye(1, false), false);
        due.is(x.eye(4, false), false);
        due.is(x.eye(0, true), false);
        due.is(x.count(0, 7), 1);
        due.is(x.eye(0, false), true);
        due.is(x.eye(0, false), false);
        due.is(x.count(0, 7), 0);
        x.go(1);
        due.is(x.eye(0, false), false);
        due.is(x.eye(0, true), true);
        due.is(x.eye(0, true), false);
        due.is(x.count(0, 7), 1);
    }

    private static void spanSeen() {
        due.part("promise 13: what is seen");
        BathHouse x = house(50, 4);
        x.ticket(0, 5, 0, false);
        span(x, 0, 0);
        x.in(0);
        x.in(4);
        span(x, 2, 2);
        x.go(5);
        span(x, 2, 2);
        x.out(4);
        x.in(1);
        x.in(2);
        span(x, 3, 3);
        x.out(0);
        x.out(1);
        x.go(1);
        span(x, 1, 1);
        due.is(x.count(0, 2), 1);
        due.is(x.count(0, 3), 0);
    }

    private static void spanOff() {
        due.part("promise 13: while the eye is off");
        BathHouse x = house(50, 9);
        for (int t = 0; t < 3; t++) {
            x.in(t);
        }
        x.go(1);
        for (int t = 3; t < 6; t++) {
            x.in(t);
        }
        x.go(1);
        span(x, 6, 6);
        due.is(x.eye(0, false), true);
        span(x, 3, 9);
        x.in(6);
        x.out(0);
        x.out(1);
        span(x, 3, 9);
        x.go(1);
        span(x, 0, 12);
        due.is(x.eye(0, true), true);
        x.out(2);
        span(x, 0, 12);
        x.go(1);
        span(x, 0, 12);
        x.in(7);
        span(x, 1, 13);
        x.go(9);
        span(x, 1, 13);
        due.is(x.count(0, 2), 5);
    }

    private static void spanLeastNotBelowZero() {
        due.part("promise 13: least not below 0");
        BathHouse x = house(50, 3);
        for (int t = 0; t < 3; t++) {
            x.in(t);
        }
        x.go(1);
        x.eye(0, false);
        x.go(1);
        x.eye(0, true);
        x.go(1);
        span(x, 0, 9);
        due.is(x.out(0), 0);
        span(x, 0, 8);
        due.is(x.out(1), 0);
        due.is(x.in(0), 0);
        // One less in all: the minute is reckoned as a whole.
        span(x, 0, 8);
        due.is(x.in(1), 0);
        due.is(x.out(2), 0);
        due.is(x.in(2), 0);
        span(x, 0, 9);
        x.go(1);
        span(x, 0, 9);
    }

    private static void spanOffForNoTime() {
        due.part("promises 11 and 13: off for no time");
        BathHouse x = house(50, 3);
        x.in(0);
        x.go(1);
        x.in(1);
        due.is(x.eye(0, false), true);
        due.is(x.eye(0, true), true);
        x.in(2);
        span(x, 0, 4);
        x.go(1);
        span(x, 0, 4);
        x.out(0);
        span(x, 0, 3);
        x.go(1);
        span(x, 0, 3);
    }

    private static void handCounts() {
        due.part("promise 12");
        BathHouse x = house(50, 3);
        x.ticket(0, 5, 0, false);
        due.is(x.hand(-1), -1);
        due.is(x.hand(1), -1);
        due.is(x.hand(4), -1);
        due.is(x.hand(0), 0);
        x.eye(0, false);
        x.in(0);
        x.in(3);
        x.go(2);
        x.eye(0, true);
        x.go(1);
        span(x, 0, 9);
        due.is(x.hand(0), 2);
        span(x, 2, 2);
        x.go(1);
        span(x, 2, 2);
    }

    private static void handInItsMinute() {
        due.part("promise 12: what is left of its minute");
        BathHouse x = house(50, 6);
        x.in(0);
        x.in(1);
        x.eye(0, false);
        x.eye(0, true);
        span(x, 0, 3);
        due.is(x.hand(0), 2);
        // Of the minute that is left the eye was on all the time.
        x.in(2);
        span(x, 3, 3);
        x.out(0);
        span(x, 2, 2);
        due.is(x.hand(0), 2);
        span(x, 2, 2);
        x.go(1);
        span(x, 2, 2);
        due.is(x.hand(0), 2);
        x.out(1);
        x.eye(0, false);
        span(x, 0, 5);
        x.go(1);
        span(x, 0, 8);
    }

    private static void handWhileOff() {
        due.part("promise 12: while the eye is off");
        BathHouse x = house(50, 6);
        x.in(0);
        x.in(1);
        x.in(2);
        x.eye(0, false);
        x.go(1);
        x.in(3);
        due.is(x.hand(0), 4);
        span(x, 1, 7);
        x.in(4);
        due.is(x.hand(0), 5);
        x.eye(0, true);
        span(x, 2, 8);
        due.is(x.hand(0), 5);
        span(x, 5, 5);
        x.out(0);
        x.go(1);
        span(x, 4, 4);
    }

    private static void counts() {
        due.part("promise 13");
        BathHouse x = new BathHouse();
        x.pool(0, 33, 5, 2);
        x.pool(1, 44, 4, 0);
        x.club(0, 1, 0, 10, 0);
        x.club(0, 10, 5, 10, 3);
        x.club(1, 15, 0, 10, 0);
        x.ticket(0, 5, 0, false);
        x.ticket(0, 5, 0, false);
        x.in(0);
        x.in(1);
        int[] pool0 = {2, 2, 2, 2, 33, 4, 0, 1};
        int[] pool1 = {0, 0, 0, 0, 44, 0, 0, 1};
        for (int what = 0; what < 8; what++) {
            due.is(x.count(0, what), pool0[what]);
            due.is(x.count(1, what), pool1[what]);
            due.is(x.count(2, what), -1);
            due.is(x.count(-1, what), -1);
            due.is(x.count(4, what), -1);
        }
        due.is(x.count(0, 8), -1);
        due.is(x.count(0, -1), -1);
        due.is(x.count(0, Integer.MAX_VALUE), -1);
        x.post(0, 1, 0);
        due.is(x.count(0, 6), 1);
        x.go(5);
        due.is(x.count(0, 5), 2);
        x.go(5);
        due.is(x.count(0, 5), 5);
        due.is(x.count(1, 5), 4);
    }
}

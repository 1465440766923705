/** Promises 1 to 7 and 30: the day, pools, tickets, clubs, and what is told of all. */
public final class DayTest {
    private static final Due due = new Due("DayTest");

    public static void main(String[] args) {
        newObject();
        pools();
        poolsLater();
        steps();
        tickets();
        ticketsOfClubs();
        ticketsFull();
        clubs();
        clubsFull();
        clashes();
        clashesKept();
        leaving();
        leavingFreesLanes();
        leavingAtEdges();
        sums();
        due.end();
    }

    private static void newObject() {
        due.part("promise 1");
        BathHouse x = new BathHouse();
        due.is(BathHouse.NONE, -1);
        for (int what = 0; what <= 6; what++) {
            due.is(x.all(what), 0);
        }
        for (int p = -1; p <= 4; p++) {
            due.is(x.count(p, 4), -1);
            due.is(x.shut(p), -1);
        }
        due.is(x.clash(), -1);
        due.is(x.hour(24), -1);
        due.is(x.pool(0, 1, 1, 0), true);
        due.is(x.pump(0, 24, 1), true);
        due.is(x.turn(0, 0), 24);
        due.is(x.hour(24), 24);
    }

    private static void pools() {
        due.part("promise 2");
        BathHouse x = new BathHouse();
        due.is(x.pool(-1, 10, 4, 1), false);
        due.is(x.pool(4, 10, 4, 1), false);
        due.is(x.pool(Integer.MIN_VALUE, 10, 4, 1), false);
        due.is(x.pool(0, 0, 4, 1), false);
        due.is(x.pool(0, 201, 4, 1), false);
        due.is(x.pool(0, 10, 0, 1), false);
        due.is(x.pool(0, 10, 9, 1), false);
        due.is(x.pool(0, 10, 4, -1), false);
        due.is(x.pool(0, 10, 4, 4), false);
        due.is(x.count(0, 4), -1);
        due.is(x.pool(0, 1, 1, 0), true);
        due.is(x.pool(0, 1, 1, 0), false);
        due.is(x.pool(3, 200, 8, 3), true);
        due.is(x.count(0, 4), 1);
        due.is(x.count(0, 5), 1);
        due.is(x.count(3, 4), 200);
        due.is(x.count(3, 5), 8);
        due.is(x.count(1, 4), -1);
        due.is(x.watcher(3, 2), -1);
        due.is(x.shut(0), 0);
        due.is(x.shut(3), 32);
    }

    private static void poolsLater() {
        due.part("promise 2, later");
        BathHouse x = new BathHouse();
        due.is(x.go(1), 1);
        due.is(x.pool(0, 10, 4, 1), false);
        due.is(x.count(0, 4), -1);
    }

    private static void steps() {
        due.part("promise 3");
        BathHouse x = new BathHouse();
        due.is(x.go(0), -1);
        due.is(x.go(-1), -1);
        due.is(x.go(241), -1);
        due.is(x.go(Integer.MAX_VALUE), -1);
        due.is(x.go(Integer.MIN_VALUE), -1);
        due.is(x.all(0), 0);
        for (int i = 1; i <= 5; i++) {
            due.is(x.go(240), 240 * i);
        }
        due.is(x.go(240), -1);
        due.is(x.all(0), 1200);
        due.is(x.go(239), 1439);
        due.is(x.go(1), -1);
        due.is(x.all(0), 1439);
    }

    private static void tickets() {
        due.part("promise 4");
        BathHouse x = new BathHouse();
        due.is(x.ticket(0, 0, 0, false), -1);
        due.is(x.pool(1, 10, 4, 0), true);
        due.is(x.ticket(0, 0, 0, false), -1);
        due.is(x.ticket(-1, 0, 0, false), -1);
        due.is(x.ticket(4, 0, 0, false), -1);
        due.is(x.ticket(1, -1, 20, false), -1);
        due.is(x.ticket(1, 6, 20, false), -1);
        due.is(x.ticket(1, 1, 14, false), -1);
        due.is(x.ticket(1, 1, 241, false), -1);
        due.is(x.ticket(1, 1, -60, false), -1);
        due.is(x.ticket(1, 2, 0, false), -1);
        due.is(x.ticket(1, 3, 0, true), -1);
        due.is(x.all(1), 0);
        due.is(x.ticket(1, 1, 15, true), 0);
        due.is(x.ticket(1, 1, 240, false), 1);
        due.is(x.ticket(1, 0, -7, true), 2);
        due.is(x.ticket(1, 4, Integer.MAX_VALUE, false), 3);
        due.is(x.ticket(1, 5, Integer.MIN_VALUE, true), 4);
        due.is(x.all(1), 5);
        due.is(x.told(3, 0), 1);
        due.is(x.told(3, 1), 4);
    }

    private static void ticketsOfClubs() {
        due.part("promise 4, clubs");
        BathHouse x = new BathHouse();
        x.pool(0, 10, 4, 0);
        x.pool(1, 10, 4, 0);
        due.is(x.club(0, 1, 0, 10, 0), 0);
        due.is(x.club(0, 2, 0, 10, 5), 1);
        due.is(x.ticket(0, 2, 0, false), 0);
        due.is(x.ticket(0, 2, 1, false), -1);
        due.is(x.ticket(0, 3, 1, false), 1);
        due.is(x.ticket(0, 3, 1, true), 2);
        due.is(x.ticket(0, 3, 0, true), -1);
        due.is(x.ticket(1, 2, 0, false), -1);
        due.is(x.ticket(1, 3, 1, false), -1);
        due.is(x.ticket(0, 2, 2, false), -1);
        due.is(x.ticket(0, 2, -1, false), -1);
        due.is(x.ticket(0, 2, 20, false), -1);
        due.is(x.ticket(0, 3, 1000000, false), -1);
        due.is(x.go(20), 20);
        due.is(x.ticket(0, 2, 0, false), 3);
        due.is(x.may(3), 2);
    }

    private static void ticketsFull() {
        due.part("promise 4, 200");
        BathHouse x = new BathHouse();
        x.pool(0, 10, 4, 0);
        for (int t = 0; t < 200; t++) {
            due.is(x.ticket(0, t % 2 == 0 ? 0 : 4, 0, false), t);
        }
        due.is(x.ticket(0, 0, 0, false), -1);
        due.is(x.all(1), 200);
        due.is(x.may(199), 0);
        due.is(x.may(200), -1);
    }

    private static void clubs() {
        due.part("promise 5");
        BathHouse x = new BathHouse();
        due.is(x.club(0, 1, 0, 10, 0), -1);
        x.pool(0, 10, 4, 0);
        x.pool(1, 10, 8, 0);
        due.is(x.club(2, 1, 0, 10, 0), -1);
        due.is(x.club(-1, 1, 0, 10, 0), -1);
        due.is(x.club(0, 0, 0, 10, 0), -1);
        due.is(x.club(0, 16, 0, 10, 0), -1);
        due.is(x.club(0, 17, 0, 10, 0), -1);
        due.is(x.club(0, -1, 0, 10, 0), -1);
        due.is(x.club(0, Integer.MIN_VALUE, 0, 10, 0), -1);
        due.is(x.club(1, 256, 0, 10, 0), -1);
        due.is(x.club(0, 1, -1, 10, 0), -1);
        due.is(x.club(0, 1, 10, 10, 0), -1);
        due.is(x.club(0, 1, 10, 9, 0), -1);
        due.is(x.club(0, 1, 0, 1441, 0), -1);
        due.is(x.club(0, 1, 1440, 1441, 0), -1);
        due.is(x.club(0, 1, 1440, 1440, 0), -1);
        due.is(x.club(0, 1, 0, 10, -1), -1);
        due.is(x.club(0, 1, 0, 10, 31), -1);
        due.is(x.all(2), 0);
        due.is(x.clash(), -1);
        due.is(x.club(0, 15, 1439, 1440, 30), 0);
        due.is(x.club(1, 255, 0, 1440, 0), 1);
        due.is(x.club(0, 15, 0, 1439, 1), 2);
        due.is(x.all(2), 3);
        due.is(x.count(1, 5), 0);
        due.is(x.count(0, 5), 0);
    }

    private static void clubsFull() {
        due.part("promise 5, 20");
        BathHouse x = new BathHouse();
        x.pool(0, 10, 4, 0);
        for (int c = 0; c < 20; c++) {
            due.is(x.club(0, 1, c, c + 1, 0), c);
        }
        due.is(x.club(0, 2, 0, 10, 0), -1);
        // Refused because 20 are there, not by a clash.
        due.is(x.club(0, 1, 3, 4, 0), -1);
        due.is(x.clash(), -1);
        due.is(x.all(2), 20);
        due.is(x.ticket(0, 2, 19, false), 0);
        due.is(x.leave(19), true);
        due.is(x.leave(20), false);
        due.is(x.club(0, 2, 0, 10, 0), -1);
    }

    private static void clashes() {
        due.part("promises 5 and 6");
        BathHouse x = new BathHouse();
        x.pool(0, 10, 4, 0);
        x.pool(1, 10, 4, 0);
        due.is(x.club(0, 3, 100, 200, 0), 0);
        due.is(x.club(0, 4, 100, 300, 3), 1);
        due.is(x.club(0, 6, 199, 201, 0), -1);
        due.is(x.clash(), 0);
        due.is(x.club(0, 12, 299, 300, 0), -1);
        due.is(x.clash(), 1);
        due.is(x.club(0, 1, 50, 101, 0), -1);
        due.is(x.clash(), 0);
        due.is(x.club(0, 4, 0, 1440, 0), -1);
        due.is(x.clash(), 1);
        due.is(x.club(0, 4, 150, 160, 0), -1);
        due.is(x.clash(), 1);
        due.is(x.club(0, 3, 200, 300, 0), 2);
        due.is(x.club(0, 3, 50, 100, 0), 3);
        due.is(x.club(0, 8, 100, 300, 0), 4);
        due.is(x.club(1, 15, 100, 300, 0), 5);
        due.is(x.club(0, 15, 0, 1440, 0), -1);
        due.is(x.clash(), 0);
        due.is(x.all(2), 6);
    }

    private static void clashesKept() {
        due.part("promise 6");
        BathHouse x = new BathHouse();
        x.pool(0, 10, 4, 0);
        x.club(0, 1, 0, 10, 0);
        x.club(0, 2, 0, 10, 0);
        due.is(x.clash(), -1);
        due.is(x.club(0, 2, 0, 10, 0), -1);
        due.is(x.clash(), 1);
        // Neither a club that is told nor one refused for something else changes it.
        due.is(x.club(0, 4, 0, 10, 0), 2);
        due.is(x.club(0, 1, 0, 10, 31), -1);
        due.is(x.club(0, 33, 0, 10, 0), -1);
        due.is(x.clash(), 1);
        due.is(x.go(20), 20);
        due.is(x.leave(1), false);
        due.is(x.clash(), 1);
        // A club of the past is in its minutes still.
        due.is(x.club(0, 1, 9, 10, 0), -1);
        due.is(x.clash(), 0);
    }

    private static void leaving() {
        due.part("promise 7");
        BathHouse x = new BathHouse();
        x.pool(0, 10, 4, 0);
        due.is(x.leave(0), false);
        due.is(x.club(0, 1, 10, 20, 0), 0);
        due.is(x.club(0, 2, 10, 20, 0), 1);
        due.is(x.club(0, 4, 30, 40, 0), 2);
        due.is(x.leave(-1), false);
        due.is(x.leave(3), false);
        due.is(x.ticket(0, 2, 0, false), 0);
        due.is(x.ticket(0, 2, 2, false), 1);
        due.is(x.go(15), 15);
        due.is(x.count(0, 5), 2);
        due.is(x.may(0), 0);
        due.is(x.leave(0), true);
        due.is(x.leave(0), false);
        due.is(x.may(0), 2);
        due.is(x.count(0, 5), 3);
        due.is(x.leave(2), true);
        due.is(x.leave(2), false);
        due.is(x.go(5), 20);
        due.is(x.leave(1), false);
        due.is(x.count(0, 5), 4);
        due.is(x.go(15), 35);
        due.is(x.may(1), 2);
        due.is(x.count(0, 5), 4);
    }

    private static void leavingFreesLanes() {
        due.part("promises 5 and 7");
        BathHouse x = new BathHouse();
        x.pool(0, 10, 4, 0);
        due.is(x.club(0, 1, 10, 100, 0), 0);
        due.is(x.club(0, 1, 200, 300, 0), 1);
        due.is(x.go(50), 50);
        due.is(x.leave(0), true);
        due.is(x.leave(1), true);
        due.is(x.club(0, 1, 49, 60, 0), -1);
        due.is(x.clash(), 0);
        due.is(x.club(0, 1, 50, 60, 0), 2);
        // Never there: not even for one that lies round all of it.
        due.is(x.club(0, 1, 60, 1440, 0), 3);
        due.is(x.count(0, 5), 3);
        due.is(x.all(2), 4);
    }

    private static void leavingAtEdges() {
        due.part("promise 7, edges");
        BathHouse x = new BathHouse();
        x.pool(0, 10, 4, 0);
        x.club(0, 1, 10, 20, 0);
        x.club(0, 2, 10, 20, 0);
        x.club(0, 4, 5, 11, 0);
        x.ticket(0, 2, 0, false);
        x.go(10);
        due.is(x.in(0), 0);
        due.is(x.leave(0), true);
        due.is(x.count(0, 5), 2);
        due.is(x.club(0, 1, 0, 1440, 0), 3);
        due.is(x.out(0), 0);
        due.is(x.in(0), 2);
        due.is(x.leave(2), true);
        x.go(9);
        due.is(x.leave(1), true);
    }

    private static void sums() {
        due.part("promise 30");
        BathHouse x = new BathHouse();
        x.pool(0, 10, 4, 0);
        x.pool(2, 10, 4, 0);
        x.club(2, 1, 0, 10, 0);
        x.ticket(0, 0, 0, false);
        x.ticket(2, 1, 15, false);
        x.ticket(2, 5, 0, false);
        x.ticket(2, 1, 15, false);
        for (int t = 0; t < 4; t++) {
            due.is(x.in(t), 0);
            due.is(x.key(t), t);
        }
        due.is(x.all(5), 4);
        due.is(x.all(6), 4);
        x.go(15);
        due.is(x.all(4), 0);
        due.is(x.give(0), 0);
        due.is(x.out(1), 20);
        due.is(x.out(3), 20);
        due.is(x.all(0), 15);
        due.is(x.all(1), 4);
        due.is(x.all(2), 1);
        due.is(x.all(3), 2);
        due.is(x.all(4), 40);
        due.is(x.all(5), 2);
        due.is(x.all(6), 1);
        due.is(x.all(7), -1);
        due.is(x.all(-1), -1);
        due.is(x.all(Integer.MIN_VALUE), -1);
        due.is(x.mend(1), 1);
        due.is(x.all(3), 1);
        due.is(x.all(6), 1);
    }
}

/** Promises 21 to 29: keys and lockers, what is told of a ticket, and the pump. */
public final class HouseTest {
    private static final Due due = new Due("HouseTest");

    public static void main(String[] args) {
        keys();
        keysAll();
        keysGiven();
        lockersLost();
        told();
        toldMinutes();
        toldMinutesOfGivenUpClub();
        toldOwed();
        pumps();
        prices();
        turns();
        turnsRounded();
        hoursTaken();
        hoursKept();
        due.end();
    }

    private static BathHouse house(int days) {
        BathHouse x = new BathHouse();
        x.pool(0, 200, 4, 0);
        for (int t = 0; t < days; t++) {
            x.ticket(0, 0, 0, false);
        }
        return x;
    }

    private static void keys() {
        due.part("promise 21");
        BathHouse x = house(3);
        x.ticket(0, 5, 0, false);
        due.is(x.key(0), -1);
        due.is(x.key(-1), -1);
        due.is(x.key(4), -1);
        due.is(x.key(200), -1);
        due.is(x.in(0), 0);
        due.is(x.key(0), 0);
        due.is(x.key(0), -1);
        due.is(x.in(3), 0);
        due.is(x.key(3), 1);
        due.is(x.told(3, 4), 1);
        due.is(x.give(0), 0);
        due.is(x.in(1), 0);
        due.is(x.key(1), 0);
        due.is(x.key(0), 2);
        due.is(x.locker(2), 0);
        due.is(x.all(6), 3);
    }

    private static void keysAll() {
        due.part("promise 21: none left");
        BathHouse x = house(31);
        for (int t = 0; t < 31; t++) {
            due.is(x.in(t), 0);
            due.is(x.key(t), t < 30 ? t : -1);
            if (t % 3 == 2) {
                x.go(1);
            }
        }
        due.is(x.all(6), 30);
        due.is(x.locker(29), 29);
        due.is(x.told(30, 4), -1);
        due.is(x.out(7), 0);
        due.is(x.key(30), -1);
        due.is(x.give(12), 12);
        due.is(x.give(11), 11);
        due.is(x.key(30), 11);
        due.is(x.mend(7), 7);
        due.is(x.key(12), 7);
    }

    private static void keysGiven() {
        due.part("promise 22");
        BathHouse x = house(2);
        due.is(x.give(0), -1);
        due.is(x.give(-1), -1);
        due.is(x.give(2), -1);
        due.is(x.give(200), -1);
        x.in(0);
        due.is(x.give(0), -1);
        due.is(x.key(0), 0);
        due.is(x.give(1), -1);
        due.is(x.give(0), 0);
        due.is(x.locker(0), -1);
        due.is(x.told(0, 4), -1);
        due.is(x.give(0), -1);
        due.is(x.all(6), 0);
    }

    private static void lockersLost() {
        due.part("promises 23 and 24");
        BathHouse x = house(3);
        due.is(x.locker(-1), -3);
        due.is(x.locker(30), -3);
        due.is(x.locker(Integer.MIN_VALUE), -3);
        due.is(x.locker(0), -1);
        due.is(x.locker(29), -1);
        due.is(x.mend(-1), -1);
        due.is(x.mend(30), -1);
        due.is(x.mend(0), -1);
        x.in(0);
        x.in(1);
        due.is(x.key(1), 0);
        due.is(x.key(0), 1);
        due.is(x.locker(0), 1);
        due.is(x.mend(0), -1);
        due.is(x.out(1), 0);
        due.is(x.locker(0), -2);
        due.is(x.told(1, 4), -1);
        due.is(x.give(1), -1);
        due.is(x.all(3), 1);
        due.is(x.all(6), 1);
        x.go(1);
        due.is(x.in(1), 0);
        due.is(x.give(1), -1);
        due.is(x.key(1), 2);
        due.is(x.mend(0), 1);
        due.is(x.mend(0), -1);
        due.is(x.locker(0), -1);
        due.is(x.locker(2), 1);
        due.is(x.all(3), 0);
        x.in(2);
        due.is(x.key(2), 0);
        due.is(x.locker(0), 2);
    }

    private static void told() {
        due.part("promise 25");
        BathHouse x = new BathHouse();
        x.pool(2, 200, 4, 0);
        for (int kind = 0; kind < 6; kind++) {
            if (kind != 2 && kind != 3) {
                x.ticket(2, kind, 15, false);
            }
        }
        int[] kinds = {0, 1, 4, 5};
        for (int t = 0; t < 4; t++) {
            int[] want = {2, kinds[t], -1, 0, -1, 0, 0, 0};
            for (int what = 0; what < 8; what++) {
                due.is(x.told(t, what), want[what]);
            }
            due.is(x.told(t, 8), -1);
            due.is(x.told(t, -1), -1);
        }
        for (int what = -1; what < 9; what++) {
            due.is(x.told(4, what), -1);
            due.is(x.told(-1, what), -1);
            due.is(x.told(200, what), -1);
        }
        x.go(3);
        due.is(x.in(0), 0);
        due.is(x.told(0, 2), 3);
        due.is(x.told(0, 3), 1);
        x.go(1);
        due.is(x.out(0), 0);
        due.is(x.told(0, 2), 3);
        due.is(x.told(0, 3), 0);
        due.is(x.in(0), 0);
        due.is(x.told(0, 2), 4);
        due.is(x.told(0, 6), 2);
    }

    private static void toldMinutes() {
        due.part("promise 25: minutes");
        BathHouse x = new BathHouse();
        x.pool(0, 200, 4, 0);
        x.club(0, 1, 0, 50, 0);
        x.club(0, 2, 0, 40, 1);
        x.ticket(0, 0, 20, false);
        x.ticket(0, 1, 20, false);
        x.ticket(0, 2, 0, false);
        x.ticket(0, 3, 1, true);
        x.ticket(0, 4, 20, false);
        x.ticket(0, 5, 20, false);
        x.go(10);
        for (int t = 0; t < 3; t++) {
            x.in(t);
        }
        x.go(1);
        for (int t = 3; t < 6; t++) {
            x.in(t);
        }
        int[] want = {0, 18, 38, 28, 0, 0};
        for (int t = 0; t < 6; t++) {
            due.is(x.told(t, 7), want[t]);
        }
        x.go(39);
        int[] later = {0, -21, -1, -11, 0, 0};
        for (int t = 0; t < 6; t++) {
            due.is(x.told(t, 7), later[t]);
        }
        due.is(x.out(1), 40);
        due.is(x.told(1, 7), 0);
        due.is(x.in(1), 0);
        due.is(x.told(1, 7), 19);
        due.is(x.out(2), 20);
        due.is(x.told(2, 7), 0);
    }

    private static void toldMinutesOfGivenUpClub() {
        due.part("promise 25: minutes when the club is given up");
        BathHouse x = new BathHouse();
        x.pool(0, 10, 4, 0);
        x.club(0, 1, 0, 20, 0);
        x.club(0, 2, 5, 20, 1);
        x.ticket(0, 2, 0, false);
        x.ticket(0, 3, 1, true);
        due.is(x.in(0), 0);
        due.is(x.leave(0), true);
        due.is(x.told(0, 7), 19);
        x.go(6);
        due.is(x.told(0, 7), 13);
        due.is(x.in(1), 0);
        due.is(x.leave(1), true);
        due.is(x.told(1, 7), 13);
        x.go(13);
        due.is(x.told(0, 7), 0);
        due.is(x.told(1, 7), 0);
        x.go(1);
        due.is(x.told(0, 7), -1);
        due.is(x.told(1, 7), -1);
        due.is(x.out(1), 20);
        due.is(x.told(1, 5), 20);
        due.is(x.told(1, 7), 0);
        due.is(x.all(4), 20);
    }

    private static void toldOwed() {
        due.part("promise 25: owed in all");
        BathHouse x = house(0);
        x.ticket(0, 1, 15, false);
        for (int i = 1; i <= 3; i++) {
            due.is(x.in(0), 0);
            x.go(30);
            due.is(x.told(0, 5), 40 * (i - 1));
            due.is(x.out(0), 40);
            due.is(x.told(0, 5), 40 * i);
            due.is(x.told(0, 6), i);
        }
        due.is(x.all(4), 120);
    }

    private static void pumps() {
        due.part("promise 26");
        BathHouse x = house(0);
        due.is(x.pump(-1, 10, 10), false);
        due.is(x.pump(1, 10, 10), false);
        due.is(x.pump(4, 10, 10), false);
        due.is(x.pump(0, 0, 10), false);
        due.is(x.pump(0, 100001, 10), false);
        due.is(x.pump(0, 10, 0), false);
        due.is(x.pump(0, 10, 10001), false);
        due.is(x.pump(0, -5, -5), false);
        due.is(x.turn(0, 0), -1);
        due.is(x.pump(0, 1, 10000), true);
        due.is(x.turn(0, 1000), 1);
        due.is(x.pump(0, 100000, 10000), true);
        due.is(x.turn(0, 0), 10);
        due.is(x.pump(0, 100000, 0), false);
        due.is(x.turn(0, 0), 10);
        due.is(x.pump(0, 100000, 1), true);
        due.is(x.turn(0, 1000), 25);
    }

    private static void prices() {
        due.part("promise 27");
        BathHouse x = house(0);
        x.pump(0, 10, 10);
        due.is(x.price(-1, 5), false);
        due.is(x.price(24, 5), false);
        due.is(x.price(0, -1), false);
        due.is(x.price(0, 10001), false);
        due.is(x.turn(0, 0), 1);
        due.is(x.hour(24), 1);
        due.is(x.price(23, 0), true);
        due.is(x.turn(0, 0), 1);
        due.is(x.hour(23), 1);
        due.is(x.hour(24), 0);
        due.is(x.price(23, 10000), true);
        due.is(x.price(0, 10000), true);
        due.is(x.turn(0, 0), 1);
        due.is(x.hour(1), 1);
        x.pump(0, 24, 1);
        due.is(x.turn(0, 0), 24);
        due.is(x.hour(24), 20022);
    }

    private static void turns() {
        due.part("promise 28");
        BathHouse x = house(0);
        x.pool(1, 50, 4, 0);
        due.is(x.turn(0, 0), -1);
        x.pump(0, 100, 10);
        due.is(x.turn(1, 0), -1);
        due.is(x.turn(2, 0), -1);
        due.is(x.turn(-1, 0), -1);
        due.is(x.turn(4, 0), -1);
        due.is(x.turn(0, -1), -1);
        due.is(x.turn(0, 1001), -1);
        due.is(x.turn(0, 0), 10);
        due.is(x.turn(0, 10), 11);
        due.is(x.turn(0, 11), 12);
        due.is(x.turn(0, 140), 24);
        due.is(x.turn(0, 141), 25);
        due.is(x.turn(0, 1000), 25);
    }

    private static void turnsRounded() {
        due.part("promise 28: no hundredth is cut off");
        BathHouse x = house(0);
        x.pump(0, 1, 1);
        due.is(x.turn(0, 0), 1);
        due.is(x.turn(0, 1), 2);
        due.is(x.turn(0, 100), 2);
        due.is(x.turn(0, 101), 3);
        x.pump(0, 7, 3);
        due.is(x.turn(0, 0), 3);
        due.is(x.turn(0, 28), 3);
        due.is(x.turn(0, 29), 4);
    }

    private static void taken(BathHouse x, String hours, int sum) {
        for (int h = 0; h < 24; h++) {
            due.is(x.hour(h), h < hours.length() && hours.charAt(h) == '1' ? 1 : 0);
        }
        due.is(x.hour(24), sum);
    }

    private static void hoursTaken() {
        due.part("promise 29: which hours");
        BathHouse x = house(0);
        x.pump(0, 3, 1);
        due.is(x.turn(0, 0), 3);
        taken(x, "111", 3);
        x.price(0, 5);
        x.price(1, 3);
        x.price(2, 5);
        for (int h = 3; h < 24; h++) {
            x.price(h, 9);
        }
        due.is(x.turn(0, 0), 3);
        taken(x, "111", 13);
        x.price(7, 4);
        x.price(20, 4);
        due.is(x.turn(0, 0), 3);
        taken(x, "010000010000000000001", 11);
        x.price(20, 5);
        // Hours 0, 2 and 20 are of one price: the earliest is taken.
        due.is(x.turn(0, 0), 3);
        taken(x, "11000001", 12);
        x.price(23, 0);
        due.is(x.turn(0, 0), 3);
        taken(x, "010000010000000000000001", 7);
    }

    private static void hoursKept() {
        due.part("promise 29: of the latest turn");
        BathHouse x = house(0);
        due.is(x.hour(0), -1);
        due.is(x.hour(24), -1);
        x.pump(0, 2, 1);
        due.is(x.turn(0, 1000), 22);
        due.is(x.turn(0, 0), 2);
        taken(x, "11", 2);
        due.is(x.hour(-1), -1);
        due.is(x.hour(25), -1);
        due.is(x.turn(0, 1001), -1);
        x.price(0, 8);
        taken(x, "11", 2);
        x.pool(1, 5, 1, 0);
        x.pump(1, 1000, 1);
        due.is(x.turn(1, 0), 25);
        taken(x, "11", 2);
        due.is(x.turn(0, 0), 2);
        taken(x, "011", 2);
    }
}

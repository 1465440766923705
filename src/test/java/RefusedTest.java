import java.util.ArrayList;
import java.util.List;

/**
 * A call that is refused changes nothing: each refused call goes to one of two houses that are alike,
 * and from then on both must answer alike.
 */
public final class RefusedTest {
    private static final Due due = new Due("RefusedTest");

    private interface Call {
        long on(BathHouse x);
    }

    public static void main(String[] args) {
        pools();
        tickets();
        clubs();
        door();
        water();
        posts();
        keys();
        pumps();
        asked();
        due.end();
    }

    /**
     * Minute 30 of a house in which every kind of thing is under way: pool 0 has a watcher and one who has
     * rested for 10 minutes, a school, a lost locker, keys; three came in and three went out in this minute;
     * pool 1 is full, pool 2 is shut and its eye is off; pool 3 was not told.
     */
    private static BathHouse house() {
        BathHouse x = new BathHouse();
        x.pool(0, 50, 4, 1);
        x.pool(1, 1, 4, 0);
        x.pool(2, 50, 2, 2);
        x.club(0, 1, 0, 40, 0);
        x.club(0, 2, 0, 100, 1);
        x.club(0, 4, 50, 60, 0);
        x.club(0, 8, 0, 10, 0);
        x.club(0, 2, 0, 10, 0);
        int[][] tickets = {{0, 5, 0}, {0, 5, 0}, {0, 1, 15}, {0, 2, 0}, {0, 3, 1}, {0, 3, 1}, {0, 3, 1}, {0, 4, 0},
            {1, 0, 0}, {1, 0, 0}, {2, 5, 0}, {2, 0, 0}, {0, 0, 0}, {0, 0, 0}, {0, 5, 0}, {0, 2, 2}};
        for (int t = 0; t < tickets.length; t++) {
            x.ticket(tickets[t][0], tickets[t][1], tickets[t][2], t == 4);
        }
        x.in(0);
        x.in(1);
        x.in(8);
        x.in(10);
        x.post(0, 0, 1);
        x.go(1);
        x.in(2);
        x.in(3);
        x.in(4);
        x.go(1);
        x.in(5);
        x.in(7);
        x.go(18);
        x.post(0, 0, 0);
        x.eye(2, false);
        x.measure(0, 1, 0.25f);
        x.put(2, 33);
        x.go(10);
        x.key(2);
        x.key(3);
        x.key(8);
        x.in(12);
        x.in(13);
        x.in(14);
        x.out(3);
        x.out(12);
        x.out(7);
        x.pump(0, 5, 2);
        x.price(3, 0);
        x.turn(0, 30);
        return x;
    }

    /** What a house answers from here on, first as it is, then through calls that lean on what is not told. */
    private static List<Long> answers(BathHouse x) {
        List<Long> told = new ArrayList<>();
        ask(x, told);
        Call[] story = {
            y -> y.hand(0), y -> y.in(6), y -> y.out(5), y -> y.eye(0, false) ? 1 : 0, y -> y.in(9), y -> y.key(5),
            y -> y.post(0, 0, 1), y -> y.go(10), y -> y.post(0, 0, 1), y -> y.out(2), y -> y.in(11), y -> y.mend(1),
            y -> y.club(0, 4, 55, 56, 0), y -> y.clash(), y -> y.in(6), y -> y.ticket(0, 0, 0, false), y -> y.shut(2),
            y -> y.go(10), y -> y.may(15), y -> y.leave(1) ? 1 : 0, y -> y.club(0, 2, 50, 90, 0), y -> y.turn(0, 60),
            y -> y.hour(0), y -> y.hour(24), y -> y.go(70), y -> y.shut(0), y -> y.minutes(2), y -> y.out(4)};
        for (Call call : story) {
            told.add(call.on(x));
        }
        ask(x, told);
        return told;
    }

    private static void ask(BathHouse x, List<Long> told) {
        for (int p = 0; p < 3; p++) {
            int[] what = {0, 1, 2, 3, 5, 6, 7};
            for (int w : what) {
                told.add((long) x.count(p, w));
            }
            told.add((long) x.shut(p));
            told.add((long) x.minutes(p));
            told.add((long) x.watcher(p, 0));
        }
        for (int t = 0; t < 16; t++) {
            told.add((long) x.may(t));
            told.add((long) x.told(t, 2));
            told.add((long) x.told(t, 4));
            told.add((long) x.told(t, 5));
            told.add((long) x.told(t, 6));
            told.add((long) x.told(t, 7));
        }
        for (int l = 0; l < 4; l++) {
            told.add((long) x.locker(l));
        }
        for (int what = 0; what < 7; what++) {
            told.add((long) x.all(what));
        }
        for (int h = 0; h < 5; h++) {
            told.add((long) x.hour(h));
        }
        told.add((long) x.hour(24));
        told.add((long) x.clash());
    }

    private static void refused(long answer, Call call) {
        BathHouse x = house();
        BathHouse twin = house();
        due.is(call.on(x), answer);
        List<Long> got = answers(x);
        List<Long> want = answers(twin);
        for (int i = 0; i < want.size(); i++) {
            due.is(got.get(i), want.get(i));
        }
    }

    private static void no(Call call) {
        refused(0, call);
    }

    private static void none(Call call) {
        refused(-1, call);
    }

    private static long flag(boolean answer) {
        return answer ? 1 : 0;
    }

    private static void pools() {
        due.part("refused: 2, 3");
        no(x -> flag(x.pool(3, 10, 4, 0)));
        no(x -> flag(x.pool(0, 10, 4, 0)));
        no(x -> flag(x.pool(4, 10, 4, 0)));
        none(x -> x.go(0));
        none(x -> x.go(-5));
        none(x -> x.go(241));
    }

    private static void tickets() {
        due.part("refused: 4");
        none(x -> x.ticket(3, 0, 0, false));
        none(x -> x.ticket(0, 6, 0, false));
        none(x -> x.ticket(0, 1, 14, false));
        none(x -> x.ticket(0, 2, 1, false));
        none(x -> x.ticket(0, 3, 0, true));
        none(x -> x.ticket(1, 3, 1, true));
    }

    private static void clubs() {
        due.part("refused: 5, 7");
        none(x -> x.club(3, 1, 0, 10, 0));
        none(x -> x.club(0, 16, 0, 10, 0));
        none(x -> x.club(0, 1, 10, 10, 0));
        none(x -> x.club(0, 1, 0, 10, 31));
        // Refused by a clash with club 1: the latest was with it too.
        none(x -> x.club(0, 2, 5, 95, 0));
        no(x -> flag(x.leave(-1)));
        no(x -> flag(x.leave(3)));
        no(x -> flag(x.leave(4)));
    }

    private static void door() {
        due.part("refused: 9, 10, 11, 12");
        none(x -> x.in(16));
        refused(1, x -> x.in(2));
        refused(2, x -> x.in(7));
        refused(2, x -> x.in(15));
        refused(3, x -> x.in(11));
        refused(4, x -> x.in(9));
        refused(5, x -> x.in(6));
        refused(6, x -> x.in(12));
        none(x -> x.out(16));
        none(x -> x.out(12));
        refused(-2, x -> x.out(0));
        refused(-2, x -> x.out(2));
        refused(-2, x -> x.out(4));
        refused(-2, x -> x.out(5));
        no(x -> flag(x.eye(3, false)));
        no(x -> flag(x.eye(0, true)));
        no(x -> flag(x.eye(2, false)));
        none(x -> x.hand(3));
        none(x -> x.hand(-1));
    }

    private static void water() {
        due.part("refused: 14, 15, 16");
        no(x -> flag(x.bounds(3, 1, 50, 60)));
        no(x -> flag(x.bounds(0, 3, 50, 60)));
        no(x -> flag(x.bounds(0, 1, 60, 50)));
        no(x -> flag(x.bounds(0, 1, 50, 100001)));
        no(x -> flag(x.bounds(0, 1, -100001, 10)));
        refused(-200000, x -> x.measure(0, 1, Float.NaN));
        refused(-200000, x -> x.measure(0, 0, 1000.5f));
        refused(-200000, x -> x.measure(0, 2, -1000.5f));
        refused(-200001, x -> x.measure(3, 0, 0f));
        refused(-200001, x -> x.measure(0, 3, 0f));
        no(x -> flag(x.put(3, 10)));
        no(x -> flag(x.put(0, 0)));
        no(x -> flag(x.put(0, 241)));
        no(x -> flag(x.put(2, -40)));
    }

    private static void posts() {
        due.part("refused: 19");
        refused(-2, x -> x.post(0, 1, 14));
        refused(-2, x -> x.post(3, 0, 14));
        refused(-2, x -> x.post(0, 0, 16));
        refused(-2, x -> x.post(0, 0, 2));
        refused(-2, x -> x.post(2, 0, 14));
        refused(-2, x -> x.post(0, 0, 0));
        refused(-2, x -> x.post(0, 0, 1));
    }

    private static void keys() {
        due.part("refused: 21, 22, 23");
        none(x -> x.key(16));
        none(x -> x.key(3));
        none(x -> x.key(2));
        none(x -> x.give(16));
        none(x -> x.give(3));
        none(x -> x.give(4));
        none(x -> x.mend(0));
        none(x -> x.mend(3));
        none(x -> x.mend(30));
    }

    private static void pumps() {
        due.part("refused: 26, 27, 28");
        no(x -> flag(x.pump(3, 10, 10)));
        no(x -> flag(x.pump(0, 0, 1)));
        no(x -> flag(x.pump(0, 10, 0)));
        no(x -> flag(x.pump(0, 100001, 1)));
        no(x -> flag(x.pump(0, 1, 10001)));
        no(x -> flag(x.price(24, 0)));
        no(x -> flag(x.price(0, -1)));
        no(x -> flag(x.price(0, 10001)));
        none(x -> x.turn(3, 0));
        none(x -> x.turn(1, 0));
        none(x -> x.turn(0, -1));
        none(x -> x.turn(0, 1001));
        refused(25, x -> x.turn(0, 1000));
    }

    private static void asked() {
        due.part("asked alone");
        refused(-1, x -> x.count(0, 8));
        refused(-1, x -> x.told(0, 8));
        refused(-1, x -> x.hour(25));
        refused(-1, x -> x.all(7));
        refused(-1, x -> x.may(16));
        refused(-1, x -> x.watcher(0, 1));
        refused(-3, x -> x.locker(30));
        refused(-1, x -> x.shut(3));
        refused(-1, x -> x.minutes(3));
    }
}
